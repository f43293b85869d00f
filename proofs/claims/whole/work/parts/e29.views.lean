/-! viewRows, viewAt: the cases of the law -/
section
variable {K K' : KT} {P P' : PT} {J J' I I' I1 S0 S1 S S' T U X Y : IT} {c cs ns n N N' g g' lq lq' nq lqq tn nv l3 l4 w i k z t : Nat} {lv mv lv' mv' : Nat → Nat} {q q' : Int} {M : List (List Int)} {L : Nat} {xs : Int → Int} {p1 p2 p3 p4 p5 : Int} {W M2 F : MD} {as bs fas : List AV}
theorem LR.tellU {x y : Nat} (h : LR c K P I S T cs ns) (hU : ∀ (o : Nat) (z : Int), ¬ (270 ≤ o ∧ o ≤ 274) → ¬ (o = 100 ∧ (z = 71 ∨ z = 75 ∨ z = 93)) → U o z = S o z) (hx : x ≤ 1) (hy : y ≤ 6) : LR (c + 1) K P I U T (cs + x) (ns + y) := by
  obtain ⟨n, N, g, lq, lv, mv, q, nq, lqq, tn, nv, l3, l4, w, M, eg, qz, dr, qy, vw, ev, pn, rm⟩ := h
  have fo : ∀ o, ¬ (270 ≤ o ∧ o ≤ 274) → o ≠ 100 → U o = S o := fun o ha ho => funext (fun y => hU o y ha (fun z => ho z.1))
  have f1 : ∀ y, ¬ (y = 71 ∨ y = 75 ∨ y = 93) → U 100 y = S 100 y := fun y hy => hU 100 y (by decide) (fun z => hy z.2)
  have s0 := f1 0 (by decide)
  have hs := eg.1.2.sch.2
  have hs' : SSch (U) := by
    unfold SSch at *
    rw [s0, f1 8 (by decide), fo 201 (by decide) (by decide), fo 202 (by decide) (by decide), fo 203 (by decide) (by decide), fo 206 (by decide) (by decide), fo 211 (by decide) (by decide)]
    exact hs
  refine ⟨n, N, g, lq, lv, mv, q, nq, lqq, tn, nv, l3, l4, w, M, eg.frm eg.1.1.c (fun _ _ => ⟨rfl, rfl, rfl⟩) (fun o y ho => ?_) (by rw [f1 37 (by decide)]; omega) ⟨Int.le_refl _, eg.1.2.rd.2.2⟩, ?_, dr.frm ⟨rfl, rfl⟩ ⟨fo 238 (by decide) (by decide), f1 37 (by decide)⟩, qy.frm (fun _ _ => ⟨rfl, rfl, rfl⟩) rfl (fun o o0 o1 => fo o (by omega) (by omega)) (fun t _ _ => by rw [fo 201 (by decide) (by decide)]) (by rw [s0]; exact Int.le_refl _) (fun y hy => f1 y (by omega)), vw.frm qy.1.1 qy.2.1 ⟨⟨hs, hs'⟩, ⟨fun k _ => by rw [fo 214 (by decide) (by decide)], fun k _ => by rw [fo 215 (by decide) (by decide)]⟩, fun o o0 o1 => fo o (by omega) (by omega), fo 269 (by decide) (by decide), f1 68 (by decide), fun t _ _ => by rw [fo 201 (by decide) (by decide)], fun t ρ => rowSeen_of (f1 8 (by decide)) (fun o o0 o1 => fo o (by omega) (by omega))⟩ (fun _ _ => ⟨rfl, rfl, rfl⟩), ev.frm (fun _ _ => ⟨rfl, rfl⟩) ⟨rfl, rfl⟩ ⟨fo 276 (by decide) (by decide), f1 77 (by decide), f1 78 (by decide)⟩, pn.frm qy.1.1.2.1 (fun _ _ => rfl) (fun o ho => fo o (by omega) (by omega)) (f1 67 (by decide)) rfl, ?_⟩
  · by_cases e : o = 100
    · subst e
      exact f1 y (by unfold erM at ho; omega)
    · rw [fo o (by unfold erM at ho; omega) e]
  · unfold QzR at *
    rw [s0]
    omega
  · unfold RmR at *
    omega
/-- the frame of what the reference's search leaves -/
def FnF (S U : IT) : Prop := ∀ (o : Nat) (z : Int), ¬ (270 ≤ o ∧ o ≤ 274) → ¬ (o = 100 ∧ (z = 71 ∨ z = 75 ∨ z = 93)) → U o z = S o z
/-- the class leaves its world; the reference searches -/
theorem case_fn {R0 : Option AV ⊕ String} {kk nn f l : Nat} {φ : Int → IT → Prop} {es : List (String × Int)} (h : LI c L xs K P J I cs ns) (c5 : c < 512) (hb : ∀ v ∈ bs, ∀ q, v = vR (some q) → RefN q) (h0 : ∀ q, q ∈ es → q.2 ≠ 0) (hu : ∀ q, q ∈ es → ∀ q', q' ∈ es → q.1 = q'.1 → q = q')
    (lw : ∀ {X Y : Nat} {Q0 : PE}, SpE F true ({ frames := 14, cells := X, slots := Y, locals := 600 } : Room) Q0 K P J I fas → LwX (es.map (fun q => q.1)) X Y Q0 → LwR X Y Q0 → SpE W true ({ frames := 15, cells := X, slots := Y, locals := 660 } : Room) (LwE es Q0) K P J I as)
    (sp : Sp F true ({ frames := 12, cells := kk, slots := nn, locals := 400 } : Room) (ex K P J I R0) K P J I fas) (hk : kk ≤ 1) (hn : nn ≤ 6)
    (ref : Sp M2 false (rmv f l) (exV (rsK RefN K) (rsP RefN P) (rsI RefN J) φ) (rsK RefN K) (rsP RefN P) (rsI RefN J) (mS I) bs) (hf : f ≤ 12) (hl : l ≤ 400)
    (hres : (∃ q, q ∈ es ∧ R0 = .inr q.1 ∧ ∀ v U, φ v U → U 100 93 = q.2 ∧ FnF (mS I) U) ∨ ∃ v, R0 = .inl (some (vI v)) ∧ ∀ v' U, φ v' U → U 100 93 = 0 ∧ v = v' ∧ FnF (mS I) U) : CaseC c L xs W as M2 bs K P J I cs ns := by
  obtain ⟨hL, hR⟩ := h
  have rm := hR.room (by omega)
  have h50 := hL.2.2.1
  have ref2 := ref.room (R' := rmv 12 400) hf hl (Nat.le_refl _) (Nat.le_refl _)
  have spE := sp.toE.room (R' := ({ frames := 14, cells := 603072 - cs, slots := 7207018 - ns, locals := 600 } : Room)) (by show 12 ≤ 14; omega) (by show 400 ≤ 600; omega) (by show kk ≤ 603072 - cs; omega) (by show nn ≤ 7207018 - ns; omega)
  refine case_mk (Q0 := fun r K' P' J' I' k n => ex K P J I R0 r K' P' J' I' ∧ k = kk ∧ n = nn) hL (by omega) hb (lw spE (fun k n E K' P' J' I' hq => ?_) (fun k n r K' P' J' I' hq => ?_)) h0 (fun q hq K' P' J' I' k n hQ => ?_) (fun v K' P' J' I' k n hQ => ?_)
  · obtain ⟨⟨e1, -⟩, ek, en⟩ := hq
    rcases hres with ⟨q, hq, e, -⟩ | ⟨v, e, -⟩
    · rw [e] at e1
      injection e1 with e1
      exact ⟨List.mem_map.mpr ⟨q, hq, e1.symm⟩, by omega, by omega⟩
    · rw [e] at e1; cases e1
  · obtain ⟨⟨e1, e2, -⟩, ek, en⟩ := hq
    rcases hres with ⟨q, hq, e, -⟩ | ⟨v, e, -⟩
    · rw [e] at e1; cases e1
    · rw [e] at e1
      injection e1 with e1
      exact ⟨⟨v, e1⟩, by rw [e2]; exact h50, by omega, by omega⟩
  · obtain ⟨⟨e1, e2, e3, e4, e5⟩, ek, en⟩ := hQ
    subst e2; subst e3; subst e4; subst e5
    refine ⟨rfl, fun _ _ => ⟨rfl, rfl, rfl⟩, _, ref2, fun r K1 P1 J1 I1 hq1 => ?_⟩
    obtain ⟨a1, a2, a3, v', a4, a5⟩ := hq1
    subst a3
    rcases hres with ⟨q', hq', e, hφ⟩ | ⟨v, e, -⟩
    · rw [e] at e1
      injection e1 with e1
      have := hu q hq q' hq' e1
      subst this
      obtain ⟨u1, u2⟩ := hφ v' I1 a5
      exact ⟨a1, a2, v', a4, u1, fun y => absurd y (h0 q hq), hR.tellU u2 (by omega) (by omega)⟩
    · rw [e] at e1; cases e1
  · obtain ⟨⟨e1, e2, e3, e4, e5⟩, ek, en⟩ := hQ
    subst e2; subst e3; subst e4; subst e5
    refine ⟨rfl, fun _ _ => ⟨rfl, rfl, rfl⟩, _, ref2, fun r K1 P1 J1 I1 hq1 => ?_⟩
    obtain ⟨a1, a2, a3, v', a4, a5⟩ := hq1
    subst a3
    rcases hres with ⟨q', hq', e, -⟩ | ⟨v1, e, hφ⟩
    · rw [e] at e1; cases e1
    · rw [e] at e1
      injection e1 with e1
      injection e1 with e1
      injection e1 with e1
      obtain ⟨u1, u2, u3⟩ := hφ v' I1 a5
      exact ⟨a1, a2, v', a4, u1, fun _ => e1.trans u2, hR.tellU u3 (by omega) (by omega)⟩
theorem FnF.of {n : Nat} {s y : Int} {LL : List (List Int)} (h : FnR S U s y q n w LL) : FnF S U := fun o z a b => h.2 o z (by omega) (by omega) (by omega) (by omega) (by omega)
theorem FnF.u {v : Int} (h : FnF S U) : FnF S (up2 U 100 93 v) := fun o z a b => (up2_x (by omega)).trans (h o z a b)
theorem FnF.u0 {v : Int} : FnF S (up2 S 100 93 v) := fun o z a b => up2_x (by omega)
theorem FnF.u1 {v : Int} (h : FnF (up2 S 100 93 v) U) : FnF S U := fun o z a b => (h o z a b).trans (up2_x (by omega))
/-- one order only: the reference's rows are the class's -/
theorem seg_one {n : Nat} {s y : Int} {LL : List (List Int)} (h : FnR S U s y q n w LL) (hM : M.Perm LL ∧ Ris M) (hr : ∀ r ∈ LL, r.length = w) : seg U 270 0 w LL.length = M :=
  ris_one (w := w) (h.1.2.2.1.trans hM.1.symm) h.1.2.2.2.1 hM.2 seg_w
theorem seg_at {e k : Nat} {a b : Int} (h : RelR I e k w M) (hs : seg U 270 0 w M.length = M) (ha : 0 ≤ a ∧ a < M.length) (hb : 0 ≤ b ∧ b < w) : U 270 ((w : Int) * a + b) = I k ((w : Int) * a + b) := by
  have g1 := seg_get (I := U) (a := 270) (b := 0) (w := w) (n := M.length) (k := a.toNat) (by omega)
  have g2 := seg_get (I := I) (a := k) (b := 0) (w := w) (n := M.length) (k := a.toNat) (by omega)
  rw [hs] at g1
  rw [h.2.2, g1] at g2
  have e1 := Option.some.inj g2
  have e2 : nth (rowAt U 270 (0 + (w : Int) * ((a.toNat : Nat) : Int)) w) b = nth (rowAt I k (0 + (w : Int) * ((a.toNat : Nat) : Int)) w) b := by rw [e1]
  rw [nth_rowAt hb.1 hb.2, nth_rowAt hb.1 hb.2, show ((a.toNat : Nat) : Int) = a by omega, Int.zero_add] at e2
  exact e2
theorem case_viewRows (h : LI c L xs K P J I cs ns) (c5 : c < 512) : CaseC c L xs m_Law_viewRows [vR (some 1000), vI p1, vR (some 50)] m_Model_viewRows [vR (some 100), vI p1] K P J I cs ns := by
  obtain ⟨k1, k2⟩ := h.k1000
  have hM := h.1.1.1.rs
  obtain ⟨n, N, g, lq, lv, mv, q, nq, lqq, tn, nv, l3, l4, w, M, eg, qz, dr, qy, vw, ev, pn, rm⟩ := h.2.u93 (z := 0)
  have hb := hb_i (z := p1) hb_1
  have sy : ∀ o y, o ≠ 100 ∨ y ≠ 93 → up2 (mS I) 100 93 0 o y = mS I o y := fun o y a => sx o y a
  have mb : MB (mS I) := eg.1.2.mb.u93 (fun o y a => (sy o y a).symm)
  have v2 := vw.1.2
  rw [sy 100 68 (Or.inr (by decide))] at v2
  have n6 := vw.1.1.2.1
  have n20 := qy.1.1.2.1
  by_cases hc : 0 ≤ p1 ∧ p1 < nv
  · obtain ⟨j, hj⟩ : ∃ j : Nat, p1 = j := ⟨p1.toNat, by omega⟩
    subst hj
    have jn : j < nv := by omega
    obtain ⟨⟨a, a2⟩, w', M', ⟨n', LL, fn, fr, pm, rs⟩, rl⟩ := vw.2.1 j jn
    rw [sy 269 j (Or.inl (by decide))] at a fn
    have ref := sp_Model_viewRows (J := rsI RefN J) (I := mS I) (i := (j : Int)) (n := n') (w := w') (L := LL) hM mb (by omega) (fun _ => by omega) (fun _ => fn)
    have sp := viewRows_run (J := J) (I := I) eg.1.1.c vw.1.1 jn
    refine case_fn (es := [(eIOO, 1)]) h c5 hb (ez_1 (by decide)) es_1 (fun s x r => lw_viewRows k1 k2 s x r) sp (by decide) (by decide) ref (by decide) (by decide) (Or.inr ⟨_, rfl, fun v' U hφ => ?_⟩)
    rcases hφ with ⟨no, -⟩ | ⟨-, hF, hv⟩
    · exact absurd ⟨hc.1, by omega⟩ no
    · have f1 := FnF.of hF
      refine ⟨(hF.2 100 93 (by decide) (by decide) (by decide) (by decide) (by decide)).trans (up2_eq _ _ _ _), ?_, f1.u1⟩
      rw [rl.2.1, hv, pm.length_eq]
  · have ref := sp_Model_viewRows (J := rsI RefN J) (I := mS I) (i := p1) (n := 0) (w := 0) (L := []) hM mb (by omega) (fun z => absurd (by omega) hc) (fun z => absurd (by omega) hc)
    refine case_fn (es := [(eIOO, 1)]) h c5 hb (ez_1 (by decide)) es_1 (fun s x r => lw_viewRows k1 k2 s x r) (viewRows_no1 eg.1.1.c vw.1.1 hc) (by decide) (by decide) ref (by decide) (by decide) (Or.inl ⟨(eIOO, 1), List.mem_cons_self .., rfl, fun v' U hφ => ?_⟩)
    rcases hφ with ⟨-, -, e⟩ | ⟨y, -⟩
    · rw [e]; exact ⟨up2_eq _ _ _ _, FnF.u0⟩
    · exact absurd (by omega) hc
theorem case_viewAt (h : LI c L xs K P J I cs ns) (c5 : c < 512) : CaseC c L xs m_Law_viewAt [vR (some 1000), vI p1, vI p2, vI p3, vR (some 50)] m_Model_viewAt [vR (some 100), vI p1, vI p2, vI p3] K P J I cs ns := by
  obtain ⟨k1, k2⟩ := h.k1000
  have hM := h.1.1.1.rs
  obtain ⟨n, N, g, lq, lv, mv, q, nq, lqq, tn, nv, l3, l4, w, M, eg, qz, dr, qy, vw, ev, pn, rm⟩ := id h.2
  have hb := hb_i (z := p3) (hb_i (z := p2) (hb_i (z := p1) hb_1))
  have mb : MB (mS I) := eg.1.2.mb
  have v2 := vw.1.2
  have n6 := vw.1.1.2.1
  have n20 := qy.1.1.2.1
  by_cases hc : 0 ≤ p1 ∧ p1 < nv
  · obtain ⟨j, hj⟩ : ∃ j : Nat, p1 = j := ⟨p1.toNat, by omega⟩
    subst hj
    have jn : j < nv := by omega
    obtain ⟨⟨a, a2⟩, w', M', ⟨n', LL, fn, fr, pm, rs⟩, rl⟩ := vw.2.1 j jn
    have ref := sp_Model_viewAt (J := rsI RefN J) (I := mS I) (i := (j : Int)) (a := p2) (c := p3) (n := n') (w := w') (L := LL) hM mb (by omega) (fun _ => by omega) (fun _ => fn)
    have fb := fn.b
    have le := pm.length_eq
    by_cases hd : (0 ≤ p2 ∧ p2 < M'.length) ∧ 0 ≤ p3 ∧ p3 < w'
    · have sp := viewAt_run (J := J) (I := I) eg.1.1.c vw.1.1 jn rl fb.1 (by omega) hd.1 hd.2
      refine case_fn (es := [(eIOO, 1)]) h c5 hb (ez_1 (by decide)) es_1 (fun s x r => lw_viewAt k1 k2 s x r) sp (by decide) (by decide) ref (by decide) (by decide) (Or.inr ⟨_, rfl, fun v' U hφ => ?_⟩)
      rcases hφ with ⟨no, -⟩ | ⟨-, U2, hF, ⟨no, -⟩ | ⟨-, hv, hU⟩⟩
      · exact absurd ⟨hc.1, by omega⟩ no
      · exact absurd (by omega) no
      · have so := seg_one hF ⟨pm, rs⟩ fr
        rw [← le] at so
        rw [hU]
        exact ⟨up2_eq _ _ _ _, by rw [hv]; exact (seg_at rl so hd.1 hd.2).symm, (FnF.of hF).u⟩
    · refine case_fn (es := [(eIOO, 1)]) h c5 hb (ez_1 (by decide)) es_1 (fun s x r => lw_viewAt k1 k2 s x r) (viewAt_no2 eg.1.1.c vw.1.1 jn rl hd) (by decide) (by decide) ref (by decide) (by decide) (Or.inl ⟨(eIOO, 1), List.mem_cons_self .., rfl, fun v' U hφ => ?_⟩)
      rcases hφ with ⟨no, -⟩ | ⟨-, U2, hF, ⟨-, -, hU⟩ | ⟨y, -⟩⟩
      · exact absurd ⟨hc.1, by omega⟩ no
      · rw [hU]
        exact ⟨up2_eq _ _ _ _, (FnF.of hF).u⟩
      · exact absurd (by omega) hd
  · have ref := sp_Model_viewAt (J := rsI RefN J) (I := mS I) (i := p1) (a := p2) (c := p3) (n := 0) (w := 0) (L := []) hM mb (by omega) (fun z => absurd (by omega) hc) (fun z => absurd (by omega) hc)
    refine case_fn (es := [(eIOO, 1)]) h c5 hb (ez_1 (by decide)) es_1 (fun s x r => lw_viewAt k1 k2 s x r) (viewAt_no1 eg.1.1.c vw.1.1 hc) (by decide) (by decide) ref (by decide) (by decide) (Or.inl ⟨(eIOO, 1), List.mem_cons_self .., rfl, fun v' U hφ => ?_⟩)
    rcases hφ with ⟨-, -, e⟩ | ⟨y, -⟩
    · rw [e]; exact ⟨up2_eq _ _ _ _, FnF.u0⟩
    · exact absurd (by omega) hc
end
