/-! atByLoops, viewAnew: the cases of the law -/
section
variable {K K' : KT} {P P' : PT} {J J' I I' I1 S0 S1 S S' T U X Y : IT} {c cs ns n N N' g g' lq lq' nq lqq tn nv l3 l4 w i k z t : Nat} {lv mv lv' mv' : Nat → Nat} {q q' : Int} {M : List (List Int)} {L : Nat} {xs : Int → Int} {p1 p2 p3 p4 p5 : Int} {W M2 F : MD} {as bs fas : List AV}
theorem ris_in {r : List Int} : ∀ M : List (List Int), (∀ a ∈ M, a.length = r.length) → Ris M → ∃ Q : List (List Int), Q.Perm (r :: M) ∧ Ris Q
  | [], _, _ => ⟨[r], List.Perm.refl _, List.pairwise_cons.mpr ⟨fun _ h => absurd h List.not_mem_nil, List.Pairwise.nil⟩⟩
  | y :: M, hl, hM => by
    obtain ⟨h1, h2⟩ := List.pairwise_cons.mp hM
    by_cases e : rlt y r
    · obtain ⟨Q, a, b⟩ := ris_in M (fun a ha => hl a (List.mem_cons_of_mem _ ha)) h2
      refine ⟨y :: Q, (List.Perm.cons y a).trans (List.Perm.swap r y M), List.pairwise_cons.mpr ⟨fun x hx => ?_, b⟩⟩
      rcases List.mem_cons.mp (a.mem_iff.mp hx) with u | u
      · rw [u]
        exact fun v => rlt_irr _ (rlt_tr _ _ _ e v)
      · exact h1 x u
    · refine ⟨r :: y :: M, List.Perm.refl _, List.pairwise_cons.mpr ⟨fun x hx => ?_, hM⟩⟩
      rcases List.mem_cons.mp hx with u | u
      · rw [u]; exact e
      · exact rle_tr (hl y (List.mem_cons_self ..)).symm e (h1 x u)
theorem ris_ex {w : Nat} : ∀ A : List (List Int), (∀ r ∈ A, r.length = w) → ∃ Q : List (List Int), Q.Perm A ∧ Ris Q
  | [], _ => ⟨[], List.Perm.refl _, List.Pairwise.nil⟩
  | r :: A, h => by
    obtain ⟨Q, a, b⟩ := ris_ex A (fun r hr => h r (List.mem_cons_of_mem _ hr))
    obtain ⟨Q2, a2, b2⟩ := ris_in (r := r) Q (fun x hx => (h x (List.mem_cons_of_mem _ (a.mem_iff.mp hx))).trans (h r (List.mem_cons_self ..)).symm) b
    exact ⟨Q2, a2.trans (List.Perm.cons r a), b2⟩
/-- the evaluator's own numbers; what the reference's search leaves -/
theorem LR.evU {x y : Nat} (h : LR c K P I S T cs ns) (hE : EvW K P') (hI : ∀ o, ¬ nEv o → I' o = I o) (hP : ∀ o, o ≠ 1226 → P' o = P o) (hU : FnF S U) (hx : x ≤ 1) (hy : y ≤ 6) : LR (c + 1) K P' I' U T (cs + x) (ns + y) := by
  obtain ⟨n, N, g, lq, lv, mv, q, nq, lqq, tn, nv, l3, l4, w, M, eg, qz, dr, qy, vw, ev, pn, rm⟩ := h
  have fo : ∀ o, ¬ (270 ≤ o ∧ o ≤ 274) → o ≠ 100 → U o = S o := fun o ha ho => funext (fun y => hU o y ha (fun z => ho z.1))
  have f1 : ∀ y, ¬ (y = 71 ∨ y = 75 ∨ y = 93) → U 100 y = S 100 y := fun y hy => hU 100 y (by decide) (fun z => hy z.2)
  have s0 := f1 0 (by decide)
  have hs := eg.1.2.sch.2
  have hs' : SSch U := hs.of (fun o y ho => hU o y (by omega) (by omega))
  have eq : ∀ o, nQv o → K o = K o ∧ P' o = P o ∧ I' o = I o := fun o ho => ⟨rfl, hP o (by unfold nQv at ho; omega), hI o (by unfold nQv at ho; unfold nEv; omega)⟩
  obtain ⟨e1, e2, e3, e4, e5⟩ := ev
  refine ⟨n, N, g, lq, lv, mv, q, nq, lqq, tn, nv, l3, l4, w, M, eg.frm (eg.1.1.c.evp hP) (fun o ho => ⟨rfl, hP o (by omega), hI o (by unfold nEv; omega)⟩) (fun o y ho => hU o y (by unfold erM at ho; omega) (by unfold erM at ho; omega)) (by rw [f1 37 (by decide)]; omega) ⟨Int.le_refl _, eg.1.2.rd.2.2⟩, ?_, dr.frm ⟨by rw [hI 1000 (by unfold nEv; omega)], hI 1009 (by unfold nEv; omega)⟩ ⟨fo 238 (by decide) (by decide), f1 37 (by decide)⟩, qy.frm eq (by rw [hP 1000 (by decide)]) (fun o o0 o1 => fo o (by omega) (by omega)) (fun t _ _ => by rw [fo 201 (by decide) (by decide)]) (by rw [s0]; exact Int.le_refl _) (fun y hy => f1 y (by omega)), vw.frm qy.1.1 qy.2.1 ⟨⟨hs, hs'⟩, St4.of (fo 214 (by decide) (by decide)) (fo 215 (by decide) (by decide)), fun o o0 o1 => fo o (by omega) (by omega), fo 269 (by decide) (by decide), f1 68 (by decide), fun t _ _ => by rw [fo 201 (by decide) (by decide)], fun t ρ => rowSeen_of (f1 8 (by decide)) (fun o o0 o1 => fo o (by omega) (by omega))⟩ eq, ⟨hE, e2.fr (hI 1416 (by unfold nEv; omega)) (hI 1417 (by unfold nEv; omega)), ⟨(f1 77 (by decide)).trans e3.1, (f1 78 (by decide)).trans e3.2⟩, e4, by rw [fo 276 (by decide) (by decide), hI 1417 (by unfold nEv; omega)]; exact e5⟩, pn.frm qy.1.1.2.1 (fun o ho => hI o (by unfold nEv; omega)) (fun o ho => fo o (by omega) (by omega)) (f1 67 (by decide)) rfl, ?_⟩
  · unfold QzR at *
    rw [s0]
    omega
  · unfold RmR at *
    omega
/-- what a call that evaluates leaves -/
def EvQ (K : KT) (P : PT) (J I : IT) (R0 : Option AV ⊕ String) : PQ := fun r' K' P' J' I' => r' = R0 ∧ K' = K ∧ J' = J ∧ EvW K P' ∧ (∀ o, ¬ nEv o → I' o = I o) ∧ (∀ o, o ≠ 1226 → P' o = P o)
/-- the class evaluates; the reference searches -/
theorem case_ev {R0 : Option AV ⊕ String} {kk nn f l : Nat} {φ : Int → IT → Prop} {es : List (String × Int)} (h : LI c L xs K P J I cs ns) (c5 : c < 512) (hb : ∀ v ∈ bs, ∀ q, v = vR (some q) → RefN q) (h0 : ∀ q, q ∈ es → q.2 ≠ 0) (hu : ∀ q, q ∈ es → ∀ q', q' ∈ es → q.1 = q'.1 → q = q')
    (lw : ∀ {X Y : Nat} {Q0 : PE}, SpE F true ({ frames := 14, cells := X, slots := Y, locals := 600 } : Room) Q0 K P J I fas → LwX (es.map (fun q => q.1)) X Y Q0 → LwR X Y Q0 → SpE W true ({ frames := 15, cells := X, slots := Y, locals := 660 } : Room) (LwE es Q0) K P J I as)
    (sp : Sp F true ({ frames := 12, cells := kk, slots := nn, locals := 400 } : Room) (EvQ K P J I R0) K P J I fas) (hk : kk ≤ 1) (hn : nn ≤ 6)
    (ref : Sp M2 false (rmv f l) (exV (rsK RefN K) (rsP RefN P) (rsI RefN J) φ) (rsK RefN K) (rsP RefN P) (rsI RefN J) (mS I) bs) (hf : f ≤ 12) (hl : l ≤ 400)
    (hres : (∃ q, q ∈ es ∧ R0 = .inr q.1 ∧ ∀ v U, φ v U → U 100 93 = q.2 ∧ FnF (mS I) U) ∨ ∃ v, R0 = .inl (some (vI v)) ∧ ∀ v' U, φ v' U → U 100 93 = 0 ∧ v = v' ∧ FnF (mS I) U) : CaseC c L xs W as M2 bs K P J I cs ns := by
  obtain ⟨hL, hR⟩ := h
  have rm := hR.room (by omega)
  have h50 := hL.2.2.1
  have ref2 := ref.room (R' := rmv 12 400) hf hl (Nat.le_refl _) (Nat.le_refl _)
  have spE := sp.toE.room (R' := ({ frames := 14, cells := 603072 - cs, slots := 7207018 - ns, locals := 600 } : Room)) (by show 12 ≤ 14; omega) (by show 400 ≤ 600; omega) (by show kk ≤ 603072 - cs; omega) (by show nn ≤ 7207018 - ns; omega)
  refine case_mk (Q0 := fun r K' P' J' I' k n => EvQ K P J I R0 r K' P' J' I' ∧ k = kk ∧ n = nn) hL (by omega) hb (lw spE (fun k n E K' P' J' I' hq => ?_) (fun k n r K' P' J' I' hq => ?_)) h0 (fun q hq K' P' J' I' k n hQ => ?_) (fun v K' P' J' I' k n hQ => ?_)
  · obtain ⟨⟨e1, -⟩, ek, en⟩ := hq
    rcases hres with ⟨q, hq, e, -⟩ | ⟨v, e, -⟩
    · rw [e] at e1
      injection e1 with e1
      exact ⟨List.mem_map.mpr ⟨q, hq, e1.symm⟩, by omega, by omega⟩
    · rw [e] at e1; cases e1
  · obtain ⟨⟨e1, e2, -⟩, ek, en⟩ := hq
    rcases hres with ⟨q, hq, e, -⟩ | ⟨v, e, -⟩
    · rw [e] at e1; cases e1
    · rw [e] at e1
      injection e1 with e1
      exact ⟨⟨v, e1⟩, by rw [e2]; exact h50, by omega, by omega⟩
  · obtain ⟨⟨e1, e2, e3, e4, e5, e6⟩, ek, en⟩ := hQ
    subst e2; subst e3
    refine ⟨rfl, fun o ho => ⟨rfl, e6 o (by omega), e5 o (by unfold nEv; omega)⟩, _, ref2, fun r K1 P1 J1 I1 hq1 => ?_⟩
    obtain ⟨a1, a2, a3, v', a4, a5⟩ := hq1
    subst a3
    rcases hres with ⟨q', hq', e, hφ⟩ | ⟨v, e, -⟩
    · rw [e] at e1
      injection e1 with e1
      have := hu q hq q' hq' e1
      subst this
      obtain ⟨u1, u2⟩ := hφ v' I1 a5
      exact ⟨a1, a2, v', a4, u1, fun y => absurd y (h0 q hq), hR.evU e4 e5 e6 u2 (by omega) (by omega)⟩
    · rw [e] at e1; cases e1
  · obtain ⟨⟨e1, e2, e3, e4, e5, e6⟩, ek, en⟩ := hQ
    subst e2; subst e3
    refine ⟨rfl, fun o ho => ⟨rfl, e6 o (by omega), e5 o (by unfold nEv; omega)⟩, _, ref2, fun r K1 P1 J1 I1 hq1 => ?_⟩
    obtain ⟨a1, a2, a3, v', a4, a5⟩ := hq1
    subst a3
    rcases hres with ⟨q', hq', e, -⟩ | ⟨v1, e, hφ⟩
    · rw [e] at e1; cases e1
    · rw [e] at e1
      injection e1 with e1
      injection e1 with e1
      injection e1 with e1
      obtain ⟨u1, u2, u3⟩ := hφ v' I1 a5
      exact ⟨a1, a2, v', a4, u1, fun _ => e1.trans u2, hR.evU e4 e5 e6 u3 (by omega) (by omega)⟩
/-- the reference's rows at a place -/
theorem seg_nth {n : Nat} {s y : Int} {LL Q : List (List Int)} {a b : Int} (h : FnR S U s y q n w LL) (hQ : Q.Perm LL ∧ Ris Q) (hr : ∀ r ∈ LL, r.length = w) (ha : 0 ≤ a ∧ a < Q.length) (hb : 0 ≤ b ∧ b < w) : U 270 ((w : Int) * a + b) = nth (Q.getD a.toNat []) b := by
  have so := seg_one h hQ hr
  have le := hQ.1.length_eq
  have g1 := seg_get (I := U) (a := 270) (b := 0) (w := w) (n := LL.length) (k := a.toNat) (by omega)
  rw [so] at g1
  rw [List.getD_eq_getElem?_getD, g1]
  show _ = nth (rowAt U 270 (0 + (w : Int) * ((a.toNat : Nat) : Int)) w) b
  rw [nth_rowAt hb.1 hb.2, show ((a.toNat : Nat) : Int) = a by omega, Int.zero_add]
theorem case_viewAnew (h : LI c L xs K P J I cs ns) (c5 : c < 512) : CaseC c L xs m_Law_viewAnew [vR (some 1000), vI p1, vI p2, vI p3, vR (some 50)] m_Model_viewAnew [vR (some 100), vI p1, vI p2, vI p3] K P J I cs ns := by
  obtain ⟨k1, k2⟩ := h.k1000
  have hM := h.1.1.1.rs
  obtain ⟨n, N, g, lq, lv, mv, q, nq, lqq, tn, nv, l3, l4, w, M, eg, qz, dr, qy, vw, ev, pn, rm⟩ := id h.2
  have hb := hb_i (z := p3) (hb_i (z := p2) (hb_i (z := p1) hb_1))
  have mb : MB (mS I) := eg.1.2.mb
  have v2 := vw.1.2
  have n6 := vw.1.1.2.1
  have n20 := qy.1.1.2.1
  by_cases hc : 0 ≤ p1 ∧ p1 < nv
  · obtain ⟨j, hj⟩ : ∃ j : Nat, p1 = j := ⟨p1.toNat, by omega⟩
    subst hj
    have jn : j < nv := by omega
    obtain ⟨⟨a, a2⟩, -⟩ := vw.2.1 j jn
    have e9 : (((mS I 269 j).toNat : Nat) : Int) = mS I 269 j := by omega
    obtain ⟨n', w', LL, fn, fr, se⟩ := stored_eval (J := J) eg.1.1.c ev.1 (⟨eg.1.2.sch, eg.1.2.st.1, eg.1.2.st.2.1⟩ : StV I (mS I)) qy.2.1 (q := (mS I 269 j).toNat) (by omega) (qy.1.1.2.2 (mS I 269 j).toNat (by omega)).2
    rw [e9] at fn se
    have nf := view_ok (s := 4) (y := 0) a2 fn.1.1 n' (Nat.le_refl _)
    obtain ⟨Q, hQ⟩ := ris_ex LL fr
    have ref := sp_Model_viewAnew (J := rsI RefN J) (I := mS I) (i := (j : Int)) (a := p2) (c := p3) (n := n') (w := w') (L := LL) hM mb (by omega) (fun _ => by omega) (fun _ => fn)
    have fb := fn.b
    have le := hQ.1.length_eq
    by_cases hd : (0 ≤ p2 ∧ p2 < Q.length) ∧ 0 ≤ p3 ∧ p3 < w'
    · have sp := viewAnew_run (J := J) eg.1.1.c ev.1 qy.1.1 vw.1.1 jn a nf hQ fr fb.1 fb.2 hd.1 hd.2 se
      refine case_ev (R0 := .inl (some (vI (nth (Q.getD p2.toNat []) p3)))) (es := [(eIOO, 1)]) h c5 hb (ez_1 (by decide)) es_1 (fun s x r => lw_viewAnew k1 k2 s x r) sp (by decide) (by decide) ref (by decide) (by decide) (Or.inr ⟨_, rfl, fun v' U hφ => ?_⟩)
      rcases hφ with ⟨no, -⟩ | ⟨-, U2, hF, ⟨no, -⟩ | ⟨-, hv, hU⟩⟩
      · exact absurd ⟨hc.1, by omega⟩ no
      · exact absurd (by omega) no
      · rw [hU]
        exact ⟨up2_eq _ _ _ _, by rw [hv, seg_nth hF hQ fr hd.1 hd.2], (FnF.of hF).u⟩
    · have sp := viewAnew_no2 (J := J) eg.1.1.c ev.1 qy.1.1 vw.1.1 jn a nf hQ fr hd se
      refine case_ev (R0 := .inr eIOO) (es := [(eIOO, 1)]) h c5 hb (ez_1 (by decide)) es_1 (fun s x r => lw_viewAnew k1 k2 s x r) sp (by decide) (by decide) ref (by decide) (by decide) (Or.inl ⟨(eIOO, 1), List.mem_cons_self .., rfl, fun v' U hφ => ?_⟩)
      rcases hφ with ⟨no, -⟩ | ⟨-, U2, hF, ⟨-, -, hU⟩ | ⟨y, -⟩⟩
      · exact absurd ⟨hc.1, by omega⟩ no
      · rw [hU]
        exact ⟨up2_eq _ _ _ _, (FnF.of hF).u⟩
      · exact absurd (by omega) hd
  · have ref := sp_Model_viewAnew (J := rsI RefN J) (I := mS I) (i := p1) (a := p2) (c := p3) (n := 0) (w := 0) (L := []) hM mb (by omega) (fun z => absurd (by omega) hc) (fun z => absurd (by omega) hc)
    refine case_fn (es := [(eIOO, 1)]) h c5 hb (ez_1 (by decide)) es_1 (fun s x r => lw_viewAnew k1 k2 s x r) (viewAnew_no1 eg.1.1.c vw.1.1 hc) (by decide) (by decide) ref (by decide) (by decide) (Or.inl ⟨(eIOO, 1), List.mem_cons_self .., rfl, fun v' U hφ => ?_⟩)
    rcases hφ with ⟨-, -, e⟩ | ⟨y, -⟩
    · rw [e]; exact ⟨up2_eq _ _ _ _, FnF.u0⟩
    · exact absurd (by omega) hc
theorem case_atByLoops (h : LI c L xs K P J I cs ns) (c5 : c < 512) : CaseC c L xs m_Law_atByLoops [vR (some 1000), vI p1, vI p2, vI p3, vI p4, vR (some 50)] m_Model_atByLoops [vR (some 100), vI p1, vI p2, vI p3, vI p4] K P J I cs ns := by
  obtain ⟨k1, k2⟩ := h.k1000
  have hM := h.1.1.1.rs
  obtain ⟨n, N, g, lq, lv, mv, q, nq, lqq, tn, nv, l3, l4, w, M, eg, qz, dr, qy, vw, ev, pn, rm⟩ := id h.2
  obtain ⟨b1, b2⟩ := id eg.1
  have hb := hb_i (z := p4) (hb_i (z := p3) (hb_i (z := p2) (hb_i (z := p1) hb_1)))
  have eh := ez_3 (a := eIOO) (b := eISE) (d := eARE) (x := 1) (y := 2) (z := 3) (by decide) (by decide) (by decide)
  have nIR : eIOO ≠ eARE := by decide
  have nSR : eISE ≠ eARE := by decide
  have eu := es_3 (x := 1) (y := 2) (z := 3) nIS nIR nSR
  have s19 := b2.cnt.1
  have s61 := qy.1.2
  have hz : I 1480 2 = (nq : Int) := qy.1.1.1.2.2.2.1.1
  have n20 := qy.1.1.2.1
  by_cases hc : (0 ≤ p1 ∧ p1 < n) ∧ 0 ≤ p2 ∧ p2 < nq
  · obtain ⟨i, hi⟩ : ∃ i : Nat, p1 = i := ⟨p1.toNat, by omega⟩
    obtain ⟨y, hy⟩ : ∃ y : Nat, p2 = y := ⟨p2.toNat, by omega⟩
    subst hi
    subst hy
    have hn : i < n := by omega
    have hq : y < nq := by omega
    have t4 := (b2.tx i hn).1.2.2.2.1
    by_cases h0 : mS I 221 i = 0
    · obtain ⟨n', w', c', LL, ⟨fn, fr⟩, -, se⟩ := tx_eval (J := J) b1 b2 hn (by omega) ev.1 qy.2.1 qy.1.1 hq
      have ref := sp_Model_atByLoops (J := rsI RefN J) (I := mS I) (i := (i : Int)) (q := (y : Int)) (a := p3) (c := p4) (n := n') (w := w') (L := LL) hM b2.mb (by omega) (fun _ _ _ => fn)
      have fb := fn.b
      by_cases hF : evF (mS I) (mS I 223 i) (mS I 220 i) (12 * ((y : Int) + 1)) n'
      · have sp := abl_fail (J := J) (a := p3) (b := p4) b1 b2 hn h0 qy.1.1 hq hF se
        refine case_ev (R0 := .inr eARE) (es := [(eIOO, 1), (eISE, 2), (eARE, 3)]) h c5 hb eh eu (fun s x r => lw_atByLoops k1 k2 s x r) sp (by decide) (by decide) ref (by decide) (by decide) (Or.inl ⟨(eARE, 3), List.mem_cons_of_mem _ (List.mem_cons_of_mem _ (List.mem_singleton.mpr rfl)), rfl, fun v' U hφ => ?_⟩)
        rcases hφ with ⟨no, -⟩ | ⟨-, no, -⟩ | ⟨-, -, U2, hU2, ⟨-, -, hU⟩ | ⟨no, -⟩ | ⟨no, -⟩⟩
        · exact absurd (by omega) no
        · exact absurd h0 no
        · rw [hU]; exact ⟨up2_eq _ _ _ _, (FnF.of hU2).u⟩
        · exact absurd hF no
        · exact absurd hF no
      · obtain ⟨Q, hQ⟩ := ris_ex LL fr
        have le := hQ.1.length_eq
        by_cases hd : (0 ≤ p3 ∧ p3 < Q.length) ∧ 0 ≤ p4 ∧ p4 < w'
        · have sp := abl_run (J := J) b1 b2 hn h0 qy.1.1 hq hF hQ fr fb.1 fb.2 hd.1 hd.2 se
          refine case_ev (R0 := .inl (some (vI (nth (Q.getD p3.toNat []) p4)))) (es := [(eIOO, 1), (eISE, 2), (eARE, 3)]) h c5 hb eh eu (fun s x r => lw_atByLoops k1 k2 s x r) sp (by decide) (by decide) ref (by decide) (by decide) (Or.inr ⟨_, rfl, fun v' U hφ => ?_⟩)
          rcases hφ with ⟨no, -⟩ | ⟨-, no, -⟩ | ⟨-, -, U2, hU2, ⟨no, -⟩ | ⟨-, no, -⟩ | ⟨-, -, hv, hU⟩⟩
          · exact absurd (by omega) no
          · exact absurd h0 no
          · exact absurd no hF
          · exact absurd (by omega) no
          · rw [hU]
            exact ⟨up2_eq _ _ _ _, by rw [hv, seg_nth hU2 hQ fr hd.1 hd.2], (FnF.of hU2).u⟩
        · have sp := abl_no (J := J) b1 b2 hn h0 qy.1.1 hq hF hQ fr hd se
          refine case_ev (R0 := .inr eIOO) (es := [(eIOO, 1), (eISE, 2), (eARE, 3)]) h c5 hb eh eu (fun s x r => lw_atByLoops k1 k2 s x r) sp (by decide) (by decide) ref (by decide) (by decide) (Or.inl ⟨(eIOO, 1), List.mem_cons_self .., rfl, fun v' U hφ => ?_⟩)
          rcases hφ with ⟨no, -⟩ | ⟨-, no, -⟩ | ⟨-, -, U2, hU2, ⟨no, -⟩ | ⟨-, -, -, hU⟩ | ⟨-, no, -⟩⟩
          · exact absurd (by omega) no
          · exact absurd h0 no
          · exact absurd no hF
          · rw [hU]; exact ⟨up2_eq _ _ _ _, (FnF.of hU2).u⟩
          · exact absurd (by omega) hd
    · have ref := sp_Model_atByLoops (J := rsI RefN J) (I := mS I) (i := (i : Int)) (q := (y : Int)) (a := p3) (c := p4) (n := 0) (w := 0) (L := []) hM b2.mb (by omega) (fun _ _ z => absurd z h0)
      refine case_fn (es := [(eIOO, 1), (eISE, 2), (eARE, 3)]) h c5 hb eh eu (fun s x r => lw_atByLoops k1 k2 s x r) (atByLoops_no2 b1.c b1.e hz hn ⟨by omega, by omega⟩ (by rw [t4]; exact h0)) (by decide) (by decide) ref (by decide) (by decide) (Or.inl ⟨(eISE, 2), List.mem_cons_of_mem _ (List.mem_cons_self ..), rfl, fun v' U hφ => ?_⟩)
      rcases hφ with ⟨no, -⟩ | ⟨-, -, -, hU⟩ | ⟨-, no, -⟩
      · exact absurd (by omega) no
      · rw [hU]; exact ⟨up2_eq _ _ _ _, FnF.u0⟩
      · exact absurd no h0
  · have ref := sp_Model_atByLoops (J := rsI RefN J) (I := mS I) (i := p1) (q := p2) (a := p3) (c := p4) (n := 0) (w := 0) (L := []) hM b2.mb (by omega) (fun u v _ => absurd (by omega) hc)
    refine case_fn (es := [(eIOO, 1), (eISE, 2), (eARE, 3)]) h c5 hb eh eu (fun s x r => lw_atByLoops k1 k2 s x r) (atByLoops_no1 b1.c b1.e hz hc) (by decide) (by decide) ref (by decide) (by decide) (Or.inl ⟨(eIOO, 1), List.mem_cons_self .., rfl, fun v' U hφ => ?_⟩)
    rcases hφ with ⟨-, -, hU⟩ | ⟨y, -⟩ | ⟨y, -⟩
    · rw [hU]; exact ⟨up2_eq _ _ _ _, FnF.u0⟩
    · exact absurd (by omega) hc
    · exact absurd (by omega) hc
end
