/-! the reference's call, in the whole world; a call that doesn't throw -/
section
variable {M : MD} {R : Room} {Q : PQ} {K : KT} {P : PT} {J I : IT} {as : List AV}
/-- the reference's names -/
def RefN (o : Nat) : Prop := o = 999 ∨ o = 100 ∨ (200 ≤ o ∧ o < 300)
noncomputable abbrev mS (I : IT) : IT := rsI RefN I
theorem mS_y {o : Nat} (h : RefN o) : mS I o = I o := rsF_y h
theorem mS_n {o : Nat} (h : ¬ RefN o) : mS I o = fun _ => 0 := rsF_n h
theorem Sp.wf {x : Bool} (h : Sp M x R Q K P J I as) : Sp M x R (fun r K1 P1 J1 I1 => Q r K1 P1 J1 I1 ∧ WF K1 P1 J1 I1) K P J I as := by
  intro l hst D ad dom sz hwf hws
  have h0 := h l hst D ad dom sz hwf hws
  have hn : ∀ a U o t, PcM D ad dom K P J I as sz a U → QN Q D ad K sz a U o t → QN (fun r K1 P1 J1 I1 => Q r K1 P1 J1 I1 ∧ WF K1 P1 J1 I1) D ad K sz a U o t := fun a U o t _ ⟨⟨r, K1, P1, J1, I1, ad1, dom1, ho, hQ, w, z⟩, hF⟩ => ⟨⟨r, K1, P1, J1, I1, ad1, dom1, ho, ⟨hQ, w⟩, w, z⟩, hF⟩
  cases x with
  | true => exact vx_Met.cons (show vx_Met l M.1 (wsM M) R _ _ _ R.cells R.slots _ from h0) (fun _ _ q => q) hn (fun a U E t _ ⟨⟨K1, P1, J1, I1, ad1, dom1, hQ, w, z⟩, hF⟩ => ⟨⟨K1, P1, J1, I1, ad1, dom1, ⟨hQ, w⟩, w, z⟩, hF⟩) (fun _ q => q)
  | false => exact Met.cons (show Met l M.1 (wsM M) R _ _ R.cells R.slots _ from h0) (fun _ _ q => q) hn (fun _ q => q)
/-- how the law's and the reference's names stand -/
def LwP (P : PT) : Prop := (∀ k, P 999 k = none) ∧ (∀ o, 200 ≤ o → o < 300 → ∀ k, P o k = none) ∧ ∀ k q, P 100 k = some q → RefN q
theorem LwP.cl (h : LwP P) : ∀ o, RefN o → ∀ k q, P o k = some q → RefN q := fun o ho k q hq => by
  rcases ho with e | e | ⟨a, b⟩
  · subst e; rw [h.1] at hq; cases hq
  · subst e; exact h.2.2 k q hq
  · rw [h.2.1 o a b] at hq; cases hq
/-- a call over the reference's names alone, in the whole world -/
theorem Sp.refc (hwf : WF K P J I) (hP : LwP P) (has : ∀ v ∈ as, ∀ q, v = vR (some q) → RefN q) (hQ : ∀ r K1 P1 J1 I1, Q r K1 P1 J1 I1 → K1 = rsK RefN K ∧ P1 = rsP RefN P) (h : Sp M false R Q (rsK RefN K) (rsP RefN P) (rsI RefN J) (mS I) as) :
    Sp M false R (fun r K' P' J' I' => ∃ J1 I1, Q r (rsK RefN K) (rsP RefN P) J1 I1 ∧ K' = K ∧ P' = P ∧ (∀ o, ¬ RefN o → J' o = J o ∧ I' o = I o) ∧ rsI RefN J' = J1 ∧ mS I' = I1) K P J I as := by
  have f := Sp.frame RefN (Or.inl rfl) hP.cl has (Q := fun r K1 P1 J1 I1 => Q r K1 P1 J1 I1 ∧ WF K1 P1 J1 I1) (fun r K1 P1 J1 I1 hq o _ ho => by
    rw [(hQ r K1 P1 J1 I1 hq.1).1]; exact rsF_n ho) h.wf
  refine f.weak (fun r K' P' J' I' hq => ?_)
  obtain ⟨K1, P1, J1, I1, ⟨q1, w1⟩, -, g1, g2⟩ := hq
  obtain ⟨e1, e2⟩ := hQ _ _ _ _ _ q1
  subst e1
  subst e2
  have un : ∀ o, ¬ RefN o → K o = none → K' o = K o ∧ P' o = P o ∧ J' o = J o ∧ I' o = I o := fun o ho hk => by
    obtain ⟨a, b, c, d⟩ := g2 o (fun z => by rw [hk] at z; exact absurd z.1 (by decide))
    have z1 : rsK RefN K o = none := rsF_n ho
    have w := w1.2.2.2 o z1
    have w0 := hwf.2.2.2 o hk
    refine ⟨a.trans (z1.trans hk.symm), b.trans (funext (fun k => (w.2.2 k).trans (w0.2.2 k).symm)), c.trans (funext (fun k => (w.2.1 k).trans (w0.2.1 k).symm)), d.trans (funext (fun k => (w.1 k).trans (w0.1 k).symm))⟩
  have no : ∀ o, ¬ RefN o → K' o = K o ∧ P' o = P o ∧ J' o = J o ∧ I' o = I o := fun o ho => by
    cases hk : K o with
    | none =>
      have := un o ho hk
      rw [hk] at this
      exact this
    | some v =>
      have := g1 o (by rw [hk]; rfl) ho
      rw [hk] at this
      exact this
  have ye : ∀ o, RefN o → K' o = K o ∧ P' o = P o ∧ J' o = J1 o ∧ I' o = I1 o := fun o ho => by
    obtain ⟨a, b, c, d⟩ := g2 o (fun z => z.2 ho)
    exact ⟨a.trans (rsF_y ho), b.trans (rsF_y ho), c, d⟩
  refine ⟨J1, I1, q1, funext (fun o => ?_), funext (fun o => ?_), fun o ho => (no o ho).2.2, funext (fun o => ?_), funext (fun o => ?_)⟩
  · by_cases ho : RefN o
    · exact (ye o ho).1
    · exact (no o ho).1
  · by_cases ho : RefN o
    · exact (ye o ho).2.1
    · exact (no o ho).2.1
  · by_cases ho : RefN o
    · rw [show rsI RefN J' o = J' o from rsF_y ho]; exact (ye o ho).2.2.1
    · rw [show rsI RefN J' o = fun _ => 0 from rsF_n ho]
      exact funext (fun k => ((w1.2.2.2 o (rsF_n ho)).2.1 k).symm)
  · by_cases ho : RefN o
    · rw [mS_y ho]; exact (ye o ho).2.2.2
    · rw [mS_n ho]
      exact funext (fun k => ((w1.2.2.2 o (rsF_n ho)).1 k).symm)
/-- the reference's shape, in its own world -/
theorem MW.rs (h : MW K P) : MW (rsK RefN K) (rsP RefN P) := by
  refine ⟨fun o kd hk => ?_, fun k hk => ?_⟩
  · have ho : RefN o := by
      by_cases a : o = 100
      · exact Or.inr (Or.inl a)
      · have b1 : Nat.beq o 100 = false := Bool.eq_false_iff.mpr (fun z => a (Nat.eq_of_beq_eq_true z))
        unfold KM at hk
        rw [b1, cond_false] at hk
        by_cases b : 200 ≤ o
        · rw [Nat.ble_eq_true_of_le b, cond_true] at hk
          have lt : o - 200 < KL.length := by
            apply Classical.byContradiction
            intro z
            rw [List.getElem?_eq_none (by omega)] at hk
            cases hk
          have e94 : KL.length = 94 := rfl
          exact Or.inr (Or.inr ⟨b, by omega⟩)
        · rw [Bool.eq_false_iff.mpr (fun z => b (Nat.le_of_ble_eq_true z)), cond_false] at hk
          cases hk
    rw [show rsK RefN K o = K o from rsF_y ho]; exact h.1 o kd hk
  · rw [show rsP RefN P 100 = P 100 from rsF_y (Or.inr (Or.inl rfl))]; exact h.2 k hk
/-- a contract of a method that doesn't throw -/
theorem SpE.noX {Q : PE} (h : SpE M true R Q K P J I as) (hx : ∀ E K' P' J' I' k n, ¬ Q (.inr E) K' P' J' I' k n) : SpE M false R Q K P J I as := by
  intro l hst D ad dom sz hwf has
  have h0 := h l hst D ad dom sz hwf has
  intro p e ha hc hk s m args below hs happ hP _
  obtain ⟨n, o, h1, h2, h3, h4⟩ := (show vx_Met l M.1 (wsM M) R _ _ _ R.cells R.slots _ from h0) p e ha hc hk s m args below hs happ hP trivial
  rcases h4 with ⟨h4, L, h5, h6⟩ | ⟨q, h4, E, ce, L, ⟨k, z, -, ⟨K', P', J', I', ad', dom', q2, q3⟩, q4⟩, h6, h7, h8, h9, h10, h11⟩
  · exact ⟨n, o, h1, h2, h3, h4, L, h5, h6⟩
  · exact absurd q2 (hx _ _ _ _ _ _ _)
end
section
variable {M My : MD} {x : Bool} {R Ry : Room} {Q : PE} {Qy : PE} {K : KT} {P : PT} {J I : IT} {cs n pc pc' j : Nat} {L : List (Nat × AV)} {S St as : List AV}
/-- C.m(as), where m catches what it calls throws -/
theorem VE.callSWE {k : Nat} (d : decode M.2.1 pc = .ok (.invokestatic j, 3)) (hp : pc + 3 = pc') (hs : SpE My false Ry Qy K P J I as) (hst : St = as.reverse ++ S) (hne : My.2.2.2.2.isEmpty = false) (hm1 : Cond.codeWith My.1 My.2.1 My.2.2.1 My.2.2.2.1 My.2.2.2.2 ∈ TB) (hm3 : Cond.initialized My.1.cls ∈ TB) (hm4 : My.1.cls ≠ "java/lang/invoke/MethodHandle") (hm5 : My.1.cls ≠ "java/lang/invoke/VarHandle") (hnp : nPar My k) (hk : as.length = k) (hi : Cond.static My.1 ∈ TB) (hl : Cond.methodLink M.1.cls j My.1 ∈ TB)
    (h8 : Nat.ble (sl S) 8 = true) (hR1 : Nat.ble (Ry.frames + 1) R.frames = true) (hR2 : Nat.ble (8 + (My.2.2.1 + 11) + Ry.locals) R.locals = true) (hcs : cs + Ry.cells ≤ R.cells) (hn : n + Ry.slots ≤ R.slots)
    (kk : ∀ (k9 n9 : Nat) (r : Option AV) (K' : KT) (P' : PT) (J' I' : IT), Qy (.inl r) K' P' J' I' k9 n9 → VE M x R Q K' P' J' I' (cs + k9) (n + n9) pc' L (r.toList ++ S)) : VE M x R Q K P J I cs n pc L St := by
  subst hp
  subst hst
  intro p l e s m args below meth c D ad0 ad K0 dom H locs ls X hll
  have hS := X.2.2.2.2.1.app
  have hM : Met l My.1 (wsM My) Ry (PcM D ad dom K P J I as H.size) (QNE Qy D ad K H.size) Ry.cells Ry.slots (AF ad K H.size) := hs l X.1.2.2.2.2.2.2.2.2.1 D ad dom H.size X.2.2.2.1 hS.1
  have hts := X.1.2.2.2.2.2.1
  have hw : wsM My = Cond.codeWith My.1 My.2.1 My.2.2.1 My.2.2.2.1 My.2.2.2.2 :: TB := by unfold wsM; rw [hne]; rfl
  have hG : GoodIn TB (va_wsS M.1.cls j My.1 (wsM My)) := by
    intro w hw9
    unfold va_wsS at hw9
    rcases List.mem_append.mp hw9 with hw9 | hw9
    · simp only [List.mem_cons, List.not_mem_nil, or_false] at hw9
      rcases hw9 with rfl | rfl | rfl
      · first | exact ⟨hl, tb_good _ hl⟩ | exact ⟨hi, tb_good _ hi⟩ | exact ⟨hm3, tb_good _ hm3⟩
      · first | exact ⟨hl, tb_good _ hl⟩ | exact ⟨hi, tb_good _ hi⟩ | exact ⟨hm3, tb_good _ hm3⟩
      · first | exact ⟨hl, tb_good _ hl⟩ | exact ⟨hi, tb_good _ hi⟩ | exact ⟨hm3, tb_good _ hm3⟩
    · rw [hw] at hw9
      rcases List.mem_cons.mp hw9 with rfl | hw9
      · exact ⟨hm1, tb_good _ hm1⟩
      · exact ⟨hw9, tb_good w hw9⟩
  have hrun := vx_runSW (index := j) (own := M.1.cls) (rest := S.map (cv ad)) (As := as.map (cv ad)) (g := F0 m pc ls ((as.reverse ++ S).map (cv ad))) (locs := locs) (cells := cs) (slots := n) (e := e) (below := below) (meth := meth)
    ⟨X.1.1, X.1.2.1, X.1.2.2.2.1, X.1.2.2.2.2.1, hts⟩ hM
    (vx_cwSW k hts hG hw rfl rfl ⟨hm4, hm5, hnp⟩ ⟨Nat.le_of_ble_eq_true hR1, Nat.le_of_ble_eq_true hR2⟩)
    ⟨PcM.blind, fun U hU hW => X.pre (as := as) U hU hW⟩ rfl (by rw [List.length_map, hk]) hll.1 (by rw [List.map_append, List.map_reverse]) (lv_room (m := m) (pc := pc) (ls := ls) (rest := []) (cats ad S h8)) d ⟨hcs, hn⟩
  exact X.backE hll hS.2 hrun (fun k9 n9 r K' P' J' I' ad' dom' H1 locs1 hq CX' hl' => kk k9 n9 r K' P' J' I' hq p l e s m args below meth c D ad0 ad' K0 dom' H1 locs1 ls CX' hl')
end
