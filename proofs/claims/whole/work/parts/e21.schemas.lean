/-! a call whose run is known; what the schema's calls leave -/
section
variable {K K' : KT} {P P' : PT} {J J' I I' I1 S0 S1 S T U : IT} {c cs ns n N N' g g' lq lq' nq lqq tn nv l3 l4 w i k z x : Nat} {lv mv lv' mv' : Nat → Nat} {q q' : Int} {M : List (List Int)} {L : Nat} {xs : Int → Int} {p1 p2 p3 p4 p5 : Int}
theorem dpI_n {a : Nat} : ∀ j, (∀ k, k < j → a ≠ qX k) → dpI I j a = I a
  | 0, _ => rfl
  | j + 1, h => by
    have ih := dpI_n j (fun k hk => h k (by omega))
    unfold dpI
    split
    · exact ih
    · exact (funext (fun z => up2_o _ _ _ _ (h j (by omega)))).trans ih
theorem dpI_9 {j : Nat} : ∀ n, j < n → dpI I n (qX j) 9 = 0
  | 0, h => absurd h (Nat.not_lt_zero j)
  | n + 1, h => by
    unfold dpI
    by_cases e : j = n
    · subst e
      split
      · rw [dpI_q j (Nat.le_refl j)]; assumption
      · exact up2_eq _ _ _ _
    · have ih := dpI_9 n (show j < n by omega)
      split
      · exact ih
      · rw [up2_o _ _ _ _ (by unfold qX; omega)]; exact ih
theorem under_eq (hE : ER I S n N g lv mv q) : (bI (mUnder S) ≠ 0 ↔ 0 < opN I n) ∧ (¬ 0 < opN I n → ∀ i, ¬ opS S n i) := by
  have be := busy_eq hE
  have a : ¬ 0 < opN I n → ∀ i, ¬ opS S n i := fun h => be.mp (bI0 h)
  refine ⟨⟨fun h => ?_, fun h hu => ?_⟩, a⟩
  · have hu : mUnder S := bNe.mp h
    obtain ⟨j, j0, j1, j2⟩ := hu
    refine Classical.byContradiction (fun y => a y j.toNat ⟨?_, ?_⟩)
    · rw [hE.cnt.1] at j1; omega
    · rw [show ((j.toNat : Nat) : Int) = j by omega]; exact j2
  · have no : ¬ mUnder S := fun z => by rw [bI1 z] at hu; exact absurd hu (by decide)
    have b : bI (0 < opN I n) = 0 := be.mpr (fun i hi => no ⟨(i : Int), by omega, by rw [hE.cnt.1]; have := hi.1; omega, hi.2⟩)
    rw [bI1 h] at b
    exact absurd b (by decide)
/-- the class's call makes one world -/
theorem case_det {W M2 F : MD} {fas as bs : List AV} {K1 : KT} {P1 : PT} {T1 : IT} {kk nn : Nat} {v : Int} {es : List (String × Int)} (h : LI c L xs K P J I cs ns) (c5 : c < 512) (hb : ∀ v ∈ bs, ∀ q, v = vR (some q) → RefN q) (h0 : ∀ q, q ∈ es → q.2 ≠ 0)
    (lw : ∀ {X Y : Nat} {Q0 : PE}, SpE F true ({ frames := 14, cells := X, slots := Y, locals := 600 } : Room) Q0 K P J I fas → LwX (es.map (fun q => q.1)) X Y Q0 → LwR X Y Q0 → SpE W true ({ frames := 15, cells := X, slots := Y, locals := 660 } : Room) (LwE es Q0) K P J I as)
    {R0 : Room} (sp : Sp F true R0 (ex K1 P1 J I1 (.inl (some (vI v)))) K P J I fas) (hR : R0.frames ≤ 14 ∧ R0.locals ≤ 600 ∧ R0.cells = kk ∧ R0.slots = nn) (hk : kk ≤ 100) (hn : nn ≤ 20000) (fr : ∀ o, o < 1000 → K1 o = K o ∧ P1 o = P o ∧ I1 o = I o)
    (ref : Sp M2 false (rmv 12 400) (ex (rsK RefN K) (rsP RefN P) T1 S1 (.inl (some (vI v)))) (rsK RefN K) (rsP RefN P) (rsI RefN J) (mS I) bs) (h93 : S1 100 93 = 0) (lr : LR (c + 1) K1 P1 I1 S1 T1 (cs + kk) (ns + nn)) : CaseC c L xs W as M2 bs K P J I cs ns := by
  have rm := h.2.room (by omega)
  obtain ⟨r1, r2, r3, r4⟩ := hR
  have spE := sp.toE.room (R' := ({ frames := 14, cells := 603072 - cs, slots := 7207018 - ns, locals := 600 } : Room)) r1 r2 (by show R0.cells ≤ 603072 - cs; omega) (by show R0.slots ≤ 7207018 - ns; omega)
  have h50 := h.1.2.2.1
  refine case_mk h.1 (by omega) hb (lw spE (fun k z E K1 P1 J1 I1 hq => ?_) (fun k z r K1 P1 J1 I1 hq => ?_)) h0 (fun q hq K1 P1 J1 I1 k z hQ => ?_) (fun v K1 P1 J1 I1 k z hQ => ?_)
  · obtain ⟨⟨e1, -⟩, -⟩ := hq
    cases e1
  · obtain ⟨⟨e1, e2, -⟩, ek, en⟩ := hq
    injection e1 with e1
    have ek2 : k = kk := ek.trans r3
    have en2 : z = nn := en.trans r4
    exact ⟨⟨_, e1⟩, by rw [e2]; exact (fr 50 (by decide)).1.trans h50, by omega, by omega⟩
  · obtain ⟨⟨e1, -⟩, -⟩ := hQ
    cases e1
  · obtain ⟨⟨e1, e2, e3, e4, e5⟩, ek, en⟩ := hQ
    have ek2 : k = kk := ek.trans r3
    have en2 : z = nn := en.trans r4
    subst e2; subst e3; subst e4; subst e5; subst ek2; subst en2
    injection e1 with e1
    injection e1 with e1
    injection e1 with e1
    subst e1
    refine ⟨rfl, fr, _, ref, fun r K2 P2 J2 I2 hq => ?_⟩
    obtain ⟨q1, q2, q3, q4, q5⟩ := hq
    subst q4
    subst q5
    exact ⟨q2, q3, _, q1, h93, fun _ => rfl, lr⟩
/-- between two calls, behind one that changes the schema -/
theorem sch_lr (eg : EgR c K P I S0 n N g lq lv mv q) (qz : QzR c n nq tn S0 q) (qy : QyR K P I S0 nq lqq tn) (vw : VwI K P I S0 nq nv l3 l4) (ev : EvI2 K P I S0 w M) (pn : PnI c I S0 U nq) (rm : RmR c g n nq nv lq lqq lv mv cs ns) (dr : DrR I S0) (hI : ∀ o, ¬ (1032 ≤ o ∧ o < 1064) → I1 o = dpI I nq o) (hS : ∀ o y, ¬ (201 ≤ o ∧ o ≤ 213) → o ≠ 263 → ¬ (o = 100 ∧ (y = 0 ∨ y = 8)) → S1 o y = S0 o y) (h263 : ∀ y, 0 ≤ y → y < 20 → S1 263 y = 0) (hE : ER I1 S1 n N g lv mv q) (zC : ZI (c + 1) (-1) S1) (h2 : ∀ t, 0 ≤ t → t < S0 100 0 → S1 201 t = S0 201 t) (h0 : S0 100 0 ≤ S1 100 0 ∧ S1 100 0 ≤ S0 100 0 + 1) (hv : ∀ t ρ, rowSeen S1 0 t ρ ↔ rowSeen S0 0 t ρ) : LR (c + 1) K P I1 S1 U (cs + 0) (ns + 0) ∧ S1 100 93 = S0 100 93 := by
  obtain ⟨⟨b1, b2⟩, ⟨z1, z2, z3⟩, d, f, g1⟩ := eg
  have n60 := b1.e.2.1
  obtain ⟨⟨a1, a2⟩, a3, ⟨a4, a5, a6⟩, ⟨a7, a8⟩, a9, a10⟩ := qy
  have n20 := a1.2.1
  have dn : ∀ o, ¬ (1032 ≤ o ∧ o < 1064) → (∀ k, k < nq → o ≠ qX k) → I1 o = I o := fun o h h' => (hI o h).trans (dpI_n nq h')
  have dl : ∀ o, ¬ (1032 ≤ o ∧ o < 1064) → (o < 10000 ∨ 10640 ≤ o) → I1 o = I o := fun o h h' => dn o h (fun k hk => by unfold qX; omega)
  have fu : ∀ o, ¬ (201 ≤ o ∧ o ≤ 213) → o ≠ 263 → o ≠ 100 → S1 o = S0 o := fun o a b e => funext (fun y => hS o y a b (fun z => e z.1))
  have f1 : ∀ y, y ≠ 0 → y ≠ 8 → S1 100 y = S0 100 y := fun y a b => hS 100 y (by decide) (by decide) (by omega)
  have e21 := fu 221 (by decide) (by decide) (by decide)
  have e25 := fu 225 (by decide) (by decide) (by decide)
  have qs : ∀ j, j < nq → QuSame I1 I (qX j) 12 := fun j hj => by
    have e0 : I1 (qX j) 0 = I (qX j) 0 := by rw [hI _ (by unfold qX; omega)]; exact dpI_k (Or.inl (by decide)) nq
    have es : ∀ a, 1 ≤ a → a < 32 → I1 (qX j + a) = I (qX j + a) := fun a x0 x1 => dn _ (by unfold qX; omega) (fun k hk => by unfold qX; omega)
    unfold QuSame
    rw [es 3 (by decide) (by decide), es 4 (by decide) (by decide), es 5 (by decide) (by decide), es 6 (by decide) (by decide), es 7 (by decide) (by decide)]
    exact ⟨e0, fun k _ => ⟨⟨rfl, rfl, rfl, rfl⟩, fun _ _ _ => rfl⟩⟩
  have qn : ∀ o, qX nq ≤ o → o < 12000 → I1 o = I o := fun o x0 x1 => dn o (by unfold qX at x0; omega) (fun k hk => by unfold qX at *; omega)
  have r1 : QyR K P I1 S1 nq lqq tn := ⟨⟨a1.frm (fun _ _ => ⟨rfl, rfl⟩) ⟨dl 1480 (by decide) (by decide), dl 999 (by decide) (by decide), fun o x0 x1 => dl o (by omega) (by omega)⟩, (f1 61 (by decide) (by decide)).trans a2⟩, a3.of qs (fun o y x0 x1 _ => by rw [fu o (by omega) (by omega) (by omega)]) h2 h0.1, ⟨a4, a5, a6.frm2 (fun o x0 x1 => qn o x0 (by unfold qX at x1; omega)) (fun o x0 x1 => fu o (by omega) (by omega) (by omega)) h2 ⟨h0.1, f1 51 (by decide) (by decide), f1 52 (by decide) (by decide), f1 55 (by decide) (by decide)⟩⟩, ⟨fun j j0 j1 a ha => by
      have x : qX nq ≤ qX j + a ∧ qX j + a < 12000 := by unfold qX; omega
      rw [qn _ x.1 x.2]
      exact a7 j j0 j1 a ha, a8⟩, a9.of (fun y hy => f1 y (by omega) (by omega)) (fu 254 (by decide) (by decide) (by decide)) (fu 262 (by decide) (by decide) (by decide)), by rw [fu 260 (by decide) (by decide) (by decide)]; exact a10⟩
  obtain ⟨⟨v1, v2⟩, v3, v4, v5, v6⟩ := vw
  have e269 := fu 269 (by decide) (by decide) (by decide)
  have r2 : VwI K P I1 S1 nq nv l3 l4 := ⟨⟨v1.frm a1 e269 (fun j hj => (v3 j hj).1.1) (fun _ _ => ⟨rfl, rfl⟩) ⟨dl 1512 (by decide) (by decide), dl 1544 (by decide) (by decide), dl 999 (by decide) (by decide), fun o x0 x1 => dl o (by omega) (by omega)⟩, (f1 68 (by decide) (by decide)).trans v2⟩, v3.of a3 v1.2.1 ⟨⟨b2.sch.2, hE.sch.2⟩, St4.of (fu 214 (by decide) (by decide) (by decide)) (fu 215 (by decide) (by decide) (by decide)), fun o x0 x1 => fu o (by omega) (by omega) (by omega), e269, f1 68 (by decide) (by decide), h2, hv⟩ (fun o x0 x1 => dl o (by omega) (by omega)), v4.frm (fun o x0 x1 => ⟨rfl, dl o (by omega) (by omega)⟩), v5, v6⟩
  have r3 : EvI2 K P I1 S1 w M := ev.frm (fun _ _ => ⟨rfl, rfl⟩) ⟨dl 1416 (by decide) (by decide), dl 1417 (by decide) (by decide)⟩ ⟨fu 276 (by decide) (by decide) (by decide), f1 77 (by decide) (by decide), f1 78 (by decide) (by decide)⟩
  obtain ⟨⟨p1, p2⟩, ⟨-, p4⟩, p5, p6, p7, p8, p9, p10⟩ := pn
  have r4 : PnI (c + 1) I1 S1 U nq := by
    refine ⟨⟨?_, ?_⟩, ⟨fun j hj => ?_, ?_⟩, p5, by rw [fu 292 (by decide) (by decide) (by decide)]; exact p6, by rw [f1 67 (by decide) (by decide)]; omega, by rw [fu 265 (by decide) (by decide) (by decide)]; exact p8, fun y y0 y1 => h263 y (by omega) y1, by rw [hI (qX nq) (by unfold qX; omega), dpI_q nq (Nat.le_refl nq)]; exact p10⟩
    · unfold PlR at *
      rw [dl 1385 (by decide) (by decide), dl 1386 (by decide) (by decide), fu 291 (by decide) (by decide) (by decide), fu 292 (by decide) (by decide) (by decide)]
      exact p1
    · unfold PlV at *
      rw [dl 1390 (by decide) (by decide), dl 1393 (by decide) (by decide)]
      exact p2
    · have e9 : I1 (qX j) 9 = 0 := by rw [hI _ (by unfold qX; omega)]; exact dpI_9 nq hj
      have e63 := h263 j (by omega) (by omega)
      exact ⟨⟨Or.inl e9, fun _ => e63, fun _ => e9⟩, fun y => absurd e9 y⟩
    · rw [dl 1384 (by decide) (by decide), f1 67 (by decide) (by decide)]; exact p4
  refine ⟨⟨n, N, g, lq, lv, mv, q, nq, lqq, tn, nv, l3, l4, w, M, ⟨⟨b1.out b1.c (fun o ho => ⟨rfl, rfl, dl o (by omega) (by omega)⟩), hE⟩, ⟨zC, (mNext_of e21 e25 (f1 19 (by decide) (by decide))).trans z2, by rw [f1 16 (by decide) (by decide)]; omega⟩, fun j hj => ?_, f.frm (fun o x0 x1 => ⟨rfl, dl o (by omega) (by omega)⟩), g1⟩, ?_, dr.frm ⟨by rw [dl 1000 (by decide) (by decide)], dl 1009 (by decide) (by decide)⟩ ⟨fu 238 (by decide) (by decide) (by decide), f1 37 (by decide) (by decide)⟩, r1, r2, r3, r4, ?_⟩, f1 93 (by decide) (by decide)⟩
  · rw [dl (tX j) (by unfold tX; omega) (by unfold tX; omega), mM_of e21 e25]
    have := d j hj
    omega
  · unfold QzR at *
    omega
  · unfold RmR at *
    omega
theorem case_value (h : LI c L xs K P J I cs ns) (c5 : c < 512) : CaseC c L xs m_Law_value [vR (some 1000), vI p1, vR (some 50)] m_Model_value [vR (some 100), vI p1] K P J I cs ns := by
  obtain ⟨k1, k2⟩ := h.k1000
  have hM := h.1.1.1.rs
  obtain ⟨S0, hS0⟩ : ∃ S0, S0 = up2 (mS I) 100 93 0 := ⟨_, rfl⟩
  have hl : LR c K P I S0 (rsI RefN J) cs ns := by rw [hS0]; exact h.2.u93
  have sy : ∀ o y, o ≠ 100 ∨ y ≠ 93 → S0 o y = mS I o y := fun o y a => by rw [hS0]; exact sx o y a
  obtain ⟨n, N, g, lq, lv, mv, q, nq, lqq, tn, nv, l3, l4, w, M, eg, qz, dr, qy, vw, ev, pn, rm⟩ := hl
  have hb := hb_i (z := p1) hb_1
  have eh := ez_2 (a := eIAE) (b := eISE) (x := 1) (y := 2) (by decide) (by decide)
  have hC := eg.1.1.c
  obtain ⟨⟨d9, dv⟩, d37⟩ := id dr
  have c37 := sy 100 37 (Or.inr (by decide))
  rw [c37] at d37
  by_cases hv : okV p1
  · have n1 : ¬ ¬ (p1 = -2147483648 ∨ bI (-1000 ≤ p1 ∧ p1 ≤ 1000) ≠ 0) := fun y => y (okB.mpr hv)
    by_cases h4 : mS I 100 37 = 4
    · have cd2 : cd_Model_value (mS I) p1 = 2 := (if_neg n1).trans (if_pos h4)
      exact case_ex (es := [(eIAE, 1), (eISE, 2)]) h c5 hb eh (es_2 nAS) (fun _ s x r => lw_value k1 k2 s x r) (value_no2 hC hv (by omega)) (by decide) (by decide) (Or.inl ⟨(eISE, 2), _, List.mem_cons_of_mem _ (List.mem_singleton.mpr rfl), rfl, ref_1 (sp_Model_value (J := rsI RefN J) (I := mS I) (v := p1) hM d37) cd2 (by decide) (by decide) (by decide)⟩)
    · have cd0 : cd_Model_value (mS I) p1 = 0 := (if_neg n1).trans (if_neg h4)
      have sp2 : Sp m_Model_value false (rmv 12 400) (ex (rsK RefN K) (rsP RefN P) (rsI RefN J) (up2 (up2 S0 238 (S0 100 37) p1) 100 37 (S0 100 37 + 1)) (.inl (some (vI (S0 100 37 + 1))))) (rsK RefN K) (rsP RefN P) (rsI RefN J) (mS I) [vR (some 100), vI p1] := by
        rw [hS0]
        exact ref_0 (sp_Model_value (J := rsI RefN J) (I := mS I) (v := p1) hM d37) cd0 (by decide) (by decide)
      have sp := value_run (J := J) hC hv (show 0 ≤ I 1000 9 ∧ I 1000 9 < 4 by omega)
      rw [d9] at sp
      have dI : ∀ o, o ≠ 1000 → o ≠ 1009 → up2 (up2 I 1009 (S0 100 37) p1) 1000 9 (S0 100 37 + 1) o = I o := fun o a b => funext (fun y => by rw [up2_o _ _ _ _ a, up2_o _ _ _ _ b])
      have dS : ∀ o, o ≠ 100 → o ≠ 238 → up2 (up2 S0 238 (S0 100 37) p1) 100 37 (S0 100 37 + 1) o = S0 o := fun o a b => funext (fun y => by rw [up2_o _ _ _ _ a, up2_o _ _ _ _ b])
      have d1 : ∀ y, y ≠ 37 → up2 (up2 S0 238 (S0 100 37) p1) 100 37 (S0 100 37 + 1) 100 y = S0 100 y := fun y a => by rw [up2_k _ _ _ _ a, up2_o _ _ _ _ (by decide)]
      have dK : up2 (up2 S0 238 (S0 100 37) p1) 100 37 (S0 100 37 + 1) 100 37 = S0 100 37 + 1 := up2_eq _ _ _ _
      have d38 : ∀ y, up2 (up2 S0 238 (S0 100 37) p1) 100 37 (S0 100 37 + 1) 238 y = if y = S0 100 37 then p1 else S0 238 y := fun y => by
        rw [up2_o _ _ _ _ (by decide)]
        by_cases e : y = S0 100 37
        · rw [if_pos e, e, up2_eq]
        · rw [if_neg e, up2_k _ _ _ _ e]
      have i38 : ∀ y, up2 (up2 I 1009 (S0 100 37) p1) 1000 9 (S0 100 37 + 1) 1009 y = if y = S0 100 37 then p1 else I 1009 y := fun y => by
        rw [up2_o _ _ _ _ (by decide)]
        by_cases e : y = S0 100 37
        · rw [if_pos e, e, up2_eq]
        · rw [if_neg e, up2_k _ _ _ _ e]
      have i9 : up2 (up2 I 1009 (S0 100 37) p1) 1000 9 (S0 100 37 + 1) 1000 9 = S0 100 37 + 1 := up2_eq _ _ _ _
      have hs := eg.1.2.sch.2
      have hs' : SSch (up2 (up2 S0 238 (S0 100 37) p1) 100 37 (S0 100 37 + 1)) := hs.of (fun o y ho => by
        by_cases e : o = 100
        · subst e; exact d1 y (by omega)
        · rw [dS o e (by omega)])
      generalize up2 (up2 I 1009 (S0 100 37) p1) 1000 9 (S0 100 37 + 1) = I1 at *
      generalize hT : up2 (up2 S0 238 (S0 100 37) p1) 100 37 (S0 100 37 + 1) = S1 at *
      have nI : ∀ o, nQv o → K o = K o ∧ P o = P o ∧ I1 o = I o := fun o ho => ⟨rfl, rfl, dI o (by unfold nQv at ho; omega) (by unfold nQv at ho; omega)⟩
      refine case_det (es := [(eIAE, 1), (eISE, 2)]) (kk := 0) (nn := 0) h c5 hb eh (fun s x r => lw_value k1 k2 s x r) sp ⟨by decide, by decide, rfl, rfl⟩ (by decide) (by decide) (fun o ho => ⟨rfl, rfl, dI o (by omega) (by omega)⟩) sp2 (by rw [d1 93 (by decide), hS0, up2_eq]) ⟨n, N, g, lq, lv, mv, q, nq, lqq, tn, nv, l3, l4, w, M, eg.frm hC (fun o ho => ⟨rfl, rfl, dI o (by omega) (by omega)⟩) (fun o y ho => ?_) (by rw [dK]; omega) ⟨Int.le_refl _, eg.1.2.rd.2.2⟩, ?_, ⟨⟨i9.trans dK.symm, fun y y0 y1 => ?_⟩, by rw [dK]; omega⟩, qy.frm nI rfl (fun o x0 x1 => dS o (by omega) (by omega)) (fun t _ _ => by rw [dS 201 (by decide) (by decide)]) (by rw [d1 0 (by decide)]; exact Int.le_refl _) (fun y hy => d1 y (by omega)), vw.frm qy.1.1 qy.2.1 ⟨⟨hs, hs'⟩, St4.of (dS 214 (by decide) (by decide)) (dS 215 (by decide) (by decide)), fun o x0 x1 => dS o (by omega) (by omega), dS 269 (by decide) (by decide), d1 68 (by decide), fun t _ _ => by rw [dS 201 (by decide) (by decide)], fun t ρ => rowSeen_of (d1 8 (by decide)) (fun o x0 x1 => dS o (by omega) (by omega))⟩ nI, ev.frm (fun _ _ => ⟨rfl, rfl⟩) ⟨dI 1416 (by decide) (by decide), dI 1417 (by decide) (by decide)⟩ ⟨dS 276 (by decide) (by decide), d1 77 (by decide), d1 78 (by decide)⟩, pn.frm qy.1.1.2.1 (fun o ho => dI o (by omega) (by omega)) (fun o ho => dS o (by omega) (by omega)) (d1 67 (by decide)) rfl, ?_⟩
      · by_cases e : o = 100
        · subst e; exact d1 y (by unfold erM at ho; omega)
        · rw [dS o e (by unfold erM at ho; omega)]
      · unfold QzR at *
        rw [d1 0 (by decide)]
        omega
      · rw [dK] at y1
        rw [i38, d38]
        by_cases e : y = S0 100 37
        · rw [if_pos e, if_pos e]; exact ⟨rfl, hv⟩
        · rw [if_neg e, if_neg e]; exact dv y y0 (by omega)
      · unfold RmR at *
        omega
  · have cd1 : cd_Model_value (mS I) p1 = 1 := if_pos (fun y => hv (okB.mp y))
    exact case_ex (es := [(eIAE, 1), (eISE, 2)]) h c5 hb eh (es_2 nAS) (fun _ s x r => lw_value k1 k2 s x r) (value_no1 hC hv) (by decide) (by decide) (Or.inl ⟨(eIAE, 1), _, List.mem_cons_self .., rfl, ref_1 (sp_Model_value (J := rsI RefN J) (I := mS I) (v := p1) hM d37) cd1 (by decide) (by decide) (by decide)⟩)
end
