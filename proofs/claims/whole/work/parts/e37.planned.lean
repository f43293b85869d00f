/-! prepare: the case of the law -/
section
variable {K K' : KT} {P P' : PT} {J J' I I' I1 S0 S1 S S' T U X Y : IT} {c cs ns n N N' g g' lq lq' nq lqq tn nv l3 l4 w w' n' i y k z t : Nat} {lv mv lv' mv' : Nat → Nat} {q q' x : Int} {M M' LL : List (List Int)} {L : Nat} {xs : Int → Int} {p1 p2 p3 p4 p5 : Int} {W M2 F : MD} {as bs fas : List AV}
/-- the class's numbers change; the reference's ends by a property -/
theorem case_fy {R0 : Option AV ⊕ String} {kk nn f l : Nat} {φ : Int → IT → IT → Prop} {es : List (String × Int)} (h : LI c L xs K P J I cs ns) (c5 : c < 512) (hb : ∀ v ∈ bs, ∀ q, v = vR (some q) → RefN q) (h0 : ∀ q, q ∈ es → q.2 ≠ 0) (hu : ∀ q, q ∈ es → ∀ q', q' ∈ es → q.1 = q'.1 → q = q')
    (lw : ∀ {X Y : Nat} {Q0 : PE}, SpE F true ({ frames := 14, cells := X, slots := Y, locals := 600 } : Room) Q0 K P J I fas → LwX (es.map (fun q => q.1)) X Y Q0 → LwR X Y Q0 → SpE W true ({ frames := 15, cells := X, slots := Y, locals := 660 } : Room) (LwE es Q0) K P J I as)
    (sp : Sp F true ({ frames := 12, cells := kk, slots := nn, locals := 400 } : Room) (ex K P J I1 R0) K P J I fas) (hk : kk ≤ 1) (hn : nn ≤ 6) (fr : ∀ o, o < 1000 → I1 o = I o)
    (ref : Sp M2 false (rmv f l) (exY (rsK RefN K) (rsP RefN P) φ) (rsK RefN K) (rsP RefN P) (rsI RefN J) (mS I) bs) (hf : f ≤ 12) (hl : l ≤ 400)
    (hres : (∃ q, q ∈ es ∧ R0 = .inr q.1 ∧ ∀ v J2 U, φ v J2 U → U 100 93 = q.2 ∧ LR (c + 1) K P I1 U J2 (cs + kk) (ns + nn)) ∨ ∃ v, R0 = .inl (some (vI v)) ∧ ∀ v' J2 U, φ v' J2 U → U 100 93 = 0 ∧ v = v' ∧ LR (c + 1) K P I1 U J2 (cs + kk) (ns + nn)) : CaseC c L xs W as M2 bs K P J I cs ns := by
  obtain ⟨hL, hR⟩ := h
  have rm := hR.room (by omega)
  have h50 := hL.2.2.1
  have ref2 := ref.room (R' := rmv 12 400) hf hl (Nat.le_refl _) (Nat.le_refl _)
  have spE := sp.toE.room (R' := ({ frames := 14, cells := 603072 - cs, slots := 7207018 - ns, locals := 600 } : Room)) (by show 12 ≤ 14; omega) (by show 400 ≤ 600; omega) (by show kk ≤ 603072 - cs; omega) (by show nn ≤ 7207018 - ns; omega)
  refine case_mk (Q0 := fun r K' P' J' I' k n => ex K P J I1 R0 r K' P' J' I' ∧ k = kk ∧ n = nn) hL (by omega) hb (lw spE (fun k n E K' P' J' I' hq => ?_) (fun k n r K' P' J' I' hq => ?_)) h0 (fun q hq K' P' J' I' k n hQ => ?_) (fun v K' P' J' I' k n hQ => ?_)
  · obtain ⟨⟨e1, -⟩, ek, en⟩ := hq
    rcases hres with ⟨q, hq, e, -⟩ | ⟨v, e, -⟩
    · rw [e] at e1
      injection e1 with e1
      exact ⟨List.mem_map.mpr ⟨q, hq, e1.symm⟩, by omega, by omega⟩
    · rw [e] at e1; cases e1
  · obtain ⟨⟨e1, e2, -⟩, ek, en⟩ := hq
    rcases hres with ⟨q, hq, e, -⟩ | ⟨v, e, -⟩
    · rw [e] at e1; cases e1
    · rw [e] at e1
      injection e1 with e1
      exact ⟨⟨v, e1⟩, by rw [e2]; exact h50, by omega, by omega⟩
  · obtain ⟨⟨e1, e2, e3, e4, e5⟩, ek, en⟩ := hQ
    subst e2; subst e3; subst e4; subst e5
    subst ek; subst en
    refine ⟨rfl, fun o ho => ⟨rfl, rfl, fr o ho⟩, _, ref2, fun r K1 P1 J1 I2 hq1 => ?_⟩
    obtain ⟨a1, a2, v', a4, a5⟩ := hq1
    rcases hres with ⟨q', hq', e, hφ⟩ | ⟨v, e, -⟩
    · rw [e] at e1
      injection e1 with e1
      have := hu q hq q' hq' e1
      subst this
      obtain ⟨u1, u2⟩ := hφ v' J1 I2 a5
      exact ⟨a1, a2, v', a4, u1, fun y => absurd y (h0 q hq), u2⟩
    · rw [e] at e1; cases e1
  · obtain ⟨⟨e1, e2, e3, e4, e5⟩, ek, en⟩ := hQ
    subst e2; subst e3; subst e4; subst e5
    subst ek; subst en
    refine ⟨rfl, fun o ho => ⟨rfl, rfl, fr o ho⟩, _, ref2, fun r K1 P1 J1 I2 hq1 => ?_⟩
    obtain ⟨a1, a2, v', a4, a5⟩ := hq1
    rcases hres with ⟨q', hq', e, -⟩ | ⟨v1, e, hφ⟩
    · rw [e] at e1; cases e1
    · rw [e] at e1
      injection e1 with e1
      injection e1 with e1
      injection e1 with e1
      obtain ⟨u1, u2, u3⟩ := hφ v' J1 I2 a5
      exact ⟨a1, a2, v', a4, u1, fun _ => e1.trans u2, u3⟩
/-- between two calls, behind a plan asked for -/
theorem plan_lr (eg : EgR c K P I S n N g lq lv mv q) (qz : QzR c n nq tn S q) (qy : QyR K P I S nq lqq tn) (vw : VwI K P I S nq nv l3 l4) (ev : EvI2 K P I S w M) (pn : PnI c I S X nq) (rm : RmR c g n nq nv lq lqq lv mv cs ns) (dr : DrR I S) (hy : y < nq)
    (hI : ∀ o, o ≠ 1384 → ¬ (1387 ≤ o ∧ o ≤ 1397) → o ≠ qX y → o ≠ qX y + 13 → I1 o = I o) (h0 : ∀ k, k ≠ 9 → k ≠ 10 → k ≠ 11 → I1 (qX y) k = I (qX y) k) (fS : ∀ (o : Nat) (z : Int), ¬ (277 ≤ o ∧ o ≤ 290) → ¬ (263 ≤ o ∧ o ≤ 266) → ¬ (o = 100 ∧ (z = 67 ∨ z = 84 ∨ z = 88 ∨ z = 93)) → U o z = S o z)
    (hPn : PnR I1 U nq) (hPv : PlV I1) (hT : ∀ k, 0 ≤ T 287 k ∧ T 287 k ≤ 10) (h67 : 0 ≤ U 100 67 ∧ U 100 67 ≤ (c : Int) + 1) (h65 : ∀ k, 0 ≤ U 265 k ∧ U 265 k ≤ 3) (h63 : ∀ k, (nq : Int) ≤ k → k < 20 → U 263 k = 0) : LR (c + 1) K P I1 U T (cs + 0) (ns + 0) := by
  have bb := eg.1
  obtain ⟨b1, b2⟩ := bb
  obtain ⟨⟨a1, a2⟩, a3, ⟨a4, a5, a6⟩, ⟨a7, a8⟩, a9, a10⟩ := qy
  have n20 := a1.2.1
  have xy : 10000 ≤ qX y ∧ qX y + 32 ≤ qX nq ∧ qX nq ≤ 10640 := by unfold qX; omega
  have sm : ∀ o, o ≠ 1384 → ¬ (1387 ≤ o ∧ o ≤ 1397) → (o < 10000 ∨ qX nq ≤ o) → I1 o = I o := fun o a b d => hI o a b (by omega) (by omega)
  have fu : ∀ o, ¬ (277 ≤ o ∧ o ≤ 290) → ¬ (263 ≤ o ∧ o ≤ 266) → o ≠ 100 → U o = S o := fun o a b d => funext (fun z => fS o z a b (by omega))
  have f1 : ∀ z, ¬ (z = 67 ∨ z = 84 ∨ z = 88 ∨ z = 93) → U 100 z = S 100 z := fun z a => fS 100 z (by decide) (by decide) (by omega)
  have s0 := f1 0 (by decide)
  have hs' : SSch U := b2.sch.2.of (fun o z ho => fS o z (by omega) (by omega) (by omega))
  have qs : ∀ j, j < nq → QuSame I1 I (qX j) 12 := fun j hj => by
    have es : ∀ a, 1 ≤ a → a < 13 → I1 (qX j + a) = I (qX j + a) := fun a x0 x1 => hI _ (by unfold qX; omega) (by unfold qX; omega) (by unfold qX; omega) (by unfold qX; omega)
    have e0 : I1 (qX j) 0 = I (qX j) 0 := by
      by_cases e : j = y
      · rw [e]; exact h0 0 (by decide) (by decide) (by decide)
      · rw [hI (qX j) (by unfold qX; omega) (by unfold qX; omega) (by unfold qX; omega) (by unfold qX; omega)]
    unfold QuSame
    rw [es 3 (by decide) (by decide), es 4 (by decide) (by decide), es 5 (by decide) (by decide), es 6 (by decide) (by decide), es 7 (by decide) (by decide)]
    exact ⟨e0, fun k _ => ⟨⟨rfl, rfl, rfl, rfl⟩, fun _ _ _ => rfl⟩⟩
  have r1 : QyR K P I1 U nq lqq tn := ⟨⟨a1.frm (fun _ _ => ⟨rfl, rfl⟩) ⟨sm 1480 (by decide) (by decide) (by omega), sm 999 (by decide) (by decide) (by omega), fun o x0 x1 => sm o (by omega) (by omega) (by omega)⟩, (f1 61 (by decide)).trans a2⟩, a3.of qs (fun o z x0 x1 _ => by rw [fu o (by omega) (by omega) (by omega)]) (fun t _ _ => by rw [fu 201 (by decide) (by decide) (by decide)]) (by rw [s0]; exact Int.le_refl _), ⟨a4, a5, a6.frm2 (fun o x0 x1 => sm o (by omega) (by omega) (Or.inr x0)) (fun o x0 x1 => fu o (by omega) (by omega) (by omega)) (fun t _ _ => by rw [fu 201 (by decide) (by decide) (by decide)]) ⟨by rw [s0]; exact Int.le_refl _, f1 51 (by decide), f1 52 (by decide), f1 55 (by decide)⟩⟩, ⟨fun j j0 j1 a ha => by
      rw [sm (qX j + a) (by unfold qX; omega) (by unfold qX; omega) (by unfold qX; omega)]
      exact a7 j j0 j1 a ha, a8⟩, a9.of (fun z hz => f1 z (by omega)) (fu 254 (by decide) (by decide) (by decide)) (fu 262 (by decide) (by decide) (by decide)), by rw [fu 260 (by decide) (by decide) (by decide)]; exact a10⟩
  obtain ⟨⟨v1, v2⟩, v3, v4, v5, v6⟩ := vw
  have e269 := fu 269 (by decide) (by decide) (by decide)
  have r2 : VwI K P I1 U nq nv l3 l4 := ⟨⟨v1.frm a1 e269 (fun j hj => (v3 j hj).1.1) (fun _ _ => ⟨rfl, rfl⟩) ⟨sm 1512 (by decide) (by decide) (by omega), sm 1544 (by decide) (by decide) (by omega), sm 999 (by decide) (by decide) (by omega), fun o x0 x1 => sm o (by omega) (by omega) (by omega)⟩, (f1 68 (by decide)).trans v2⟩, v3.of a3 v1.2.1 ⟨⟨b2.sch.2, hs'⟩, St4.of (fu 214 (by decide) (by decide) (by decide)) (fu 215 (by decide) (by decide) (by decide)), fun o x0 x1 => fu o (by omega) (by omega) (by omega), e269, f1 68 (by decide), fun t _ _ => by rw [fu 201 (by decide) (by decide) (by decide)], fun t ρ => rowSeen_of (f1 8 (by decide)) (fun o x0 x1 => fu o (by omega) (by omega) (by omega))⟩ (fun o x0 x1 => sm o (by omega) (by omega) (by omega)), v4.frm (fun o x0 x1 => ⟨rfl, sm o (by omega) (by omega) (by omega)⟩), v5, v6⟩
  have r3 : EvI2 K P I1 U w M := ev.frm (fun _ _ => ⟨rfl, rfl⟩) ⟨sm 1416 (by decide) (by decide) (by omega), sm 1417 (by decide) (by decide) (by omega)⟩ ⟨fu 276 (by decide) (by decide) (by decide), f1 77 (by decide), f1 78 (by decide)⟩
  obtain ⟨⟨p1, p2⟩, p3, p5, p6, p7, p8, p9, p10⟩ := pn
  have r4 : PnI (c + 1) I1 U T nq := by
    refine ⟨⟨?_, hPv⟩, hPn, hT, by rw [fu 292 (by decide) (by decide) (by decide)]; exact p6, by omega, h65, h63, by rw [sm (qX nq) (by unfold qX; omega) (by unfold qX; omega) (Or.inr (Nat.le_refl _))]; exact p10⟩
    unfold PlR at *
    rw [sm 1385 (by decide) (by decide) (by omega), sm 1386 (by decide) (by decide) (by omega), fu 291 (by decide) (by decide) (by decide), fu 292 (by decide) (by decide) (by decide)]
    exact p1
  refine ⟨n, N, g, lq, lv, mv, q, nq, lqq, tn, nv, l3, l4, w, M, eg.frm b1.c (fun o ho => ⟨rfl, rfl, sm o (by omega) (by omega) (by omega)⟩) (fun o z ho => fS o z (by unfold erM at ho; omega) (by unfold erM at ho; omega) (by unfold erM at ho; omega)) (by rw [f1 37 (by decide)]; omega) ⟨Int.le_refl _, b2.rd.2.2⟩, ?_, dr.frm ⟨by rw [sm 1000 (by decide) (by decide) (by omega)], sm 1009 (by decide) (by decide) (by omega)⟩ ⟨fu 238 (by decide) (by decide) (by decide), f1 37 (by decide)⟩, r1, r2, r3, r4, ?_⟩
  · unfold QzR at *
    rw [s0]
    omega
  · unfold RmR at *
    omega
end
