/-! planAt, checkpoint: the cases of the law -/
section
variable {K K' : KT} {P P' : PT} {J J' I I' I1 S0 S1 S S' T U X Y : IT} {c cs ns n N N' g g' lq lq' nq lqq tn nv l3 l4 w i k z t : Nat} {lv mv lv' mv' : Nat → Nat} {q q' : Int} {M : List (List Int)} {L : Nat} {xs : Int → Int} {p1 p2 p3 p4 p5 : Int}
theorem case_planAt (h : LI c L xs K P J I cs ns) (c5 : c < 512) : CaseC c L xs m_Law_planAt [vR (some 1000), vI p1, vI p2, vR (some 50)] m_Model_planAt [vR (some 100), vI p1, vI p2] K P J I cs ns := by
  obtain ⟨k1, k2⟩ := h.k1000
  have hM := h.1.1.1.rs
  obtain ⟨n, N, g, lq, lv, mv, q, nq, lqq, tn, nv, l3, l4, w, M, eg, qz, dr, qy, vw, ev, pn, rm⟩ := id h.2
  have hC := eg.1.1.c
  have hb := hb_i (z := p2) (hb_i (z := p1) hb_1)
  have eh := ez_2 (a := eIOO) (b := eISE) (x := 1) (y := 2) (by decide) (by decide)
  have s61 := qy.1.2
  have n20 := qy.1.1.2.1
  have rf := sp_Model_planAt (J := rsI RefN J) (I := mS I) (y := p1) (a := p2) hM (by omega) pn.2.2.2.2.2.1
  by_cases hc : 0 ≤ p1 ∧ p1 < nq
  · obtain ⟨y, hy⟩ : ∃ y : Nat, p1 = y := ⟨p1.toNat, by omega⟩
    subst hy
    have hq : y < nq := by omega
    have n1 : ¬ bI (0 ≤ (y : Int) ∧ (y : Int) < mS I 100 61) = 0 := by rw [bI1 ⟨hc.1, by omega⟩]; decide
    obtain ⟨⟨a1, a2⟩, a3⟩ := pn.2.1.1 y hq
    by_cases h9 : I (qX y) 9 = 0
    · have cd : cd_Model_planAt (mS I) y p2 = 2 := (if_neg n1).trans (if_neg (fun z => z (a2.mp h9)))
      exact case_ex (es := [(eIOO, 1), (eISE, 2)]) h c5 hb eh (es_2 nIS) (fun _ s x r => lw_planAt k1 k2 s x r) (planAt_no2 hC qy.1.1 hq h9) (by decide) (by decide) (Or.inl ⟨(eISE, 2), _, List.mem_cons_of_mem _ (List.mem_singleton.mpr rfl), rfl, ref_1 rf cd (by decide) (by decide) (by decide)⟩)
    · have cd : cd_Model_planAt (mS I) y p2 = 0 := (if_neg n1).trans (if_pos (fun z => h9 (a2.mpr z)))
      obtain ⟨b1, b2, b3, b4⟩ := a3 h9
      have r0 := ref_0 rf cd (by decide) (by decide)
      have sp := planAt_run (J := J) (b := p2) hC qy.1.1 hq (a1.resolve_left h9) (by omega)
      have e : (if 0 ≤ p2 ∧ p2 < I (qX y) 11 then I (qX y + 13) p2 else -1) = (f_Model_planAt y p2 (up2 (mS I) 100 93 0)).2 := by
        show _ = if bI (0 ≤ p2 ∧ p2 ≤ up2 (mS I) 100 93 0 265 y - 1) ≠ 0 then up2 (mS I) 100 93 0 266 (4 * (y : Int) + p2) else -1
        rw [up2_o _ _ _ _ (by decide), up2_o _ _ _ _ (by decide), b2]
        by_cases u : 0 ≤ p2 ∧ p2 < mS I 265 y
        · rw [if_pos u, if_pos (bNe.mpr ⟨u.1, by omega⟩), b4 p2 u.1 u.2]
        · rw [if_neg u, if_neg (fun v => u (by have := bNe.mp v; omega))]
      rw [e] at sp
      exact case_ex (kk := 0) (nn := 0) (es := [(eIOO, 1), (eISE, 2)]) h c5 hb eh (es_2 nIS) (fun _ s x r => lw_planAt k1 k2 s x r) sp (by decide) (by decide) (Or.inr ⟨_, rfl, r0⟩)
  · have cd : cd_Model_planAt (mS I) p1 p2 = 1 := if_pos (bI0 (fun u => hc (by omega)))
    exact case_ex (es := [(eIOO, 1), (eISE, 2)]) h c5 hb eh (es_2 nIS) (fun _ s x r => lw_planAt k1 k2 s x r) (planAt_no1 hC qy.1.1 hc) (by decide) (by decide) (Or.inl ⟨(eIOO, 1), _, List.mem_cons_self .., rfl, ref_1 rf cd (by decide) (by decide) (by decide)⟩)
/-- between two calls, behind a CHECK -/
theorem chk_lr (eg : EgR c K P I S0 n N g lq lv mv q) (qz : QzR c n nq tn S0 q) (qy : QyR K P I S0 nq lqq tn) (vw : VwI K P I S0 nq nv l3 l4) (ev : EvI2 K P I S0 w M) (pn : PnI c I S0 U nq) (rm : RmR c g n nq nv lq lqq lv mv cs ns) (dr : DrR I S0) (c5 : c < 512)
    (hV : LgV K' P' g' ∧ LgN I1 g' (N + 1) ∧ ClW K' P') (hF : Fr nLg K P I K' P' I1) (hr : k + g = g' ∧ z + lgP g = lgP g') (hX : LgX I I1 g g' N [rcN 4 (-1) (-2147483648) (-2147483648)])
    (fS : ∀ (o : Nat) (y : Int), (o < 246 ∨ 249 < o) → (o ≠ 100 ∨ (y ≠ 44 ∧ y ≠ 45)) → S1 o y = S0 o y) (h44 : S1 100 44 = ((N + 1 : Nat) : Int)) (h45 : S1 100 45 = ((N + 1 : Nat) : Int)) (hR : ∀ r : Int, r ≠ N → S1 246 r = S0 246 r ∧ S1 247 r = S0 247 r ∧ S1 248 r = S0 248 r ∧ S1 249 r = S0 249 r) (hn : S1 246 N = 4 ∧ S1 247 N = -1 ∧ S1 248 N = -2147483648 ∧ S1 249 N = -2147483648) : LR (c + 1) K' P' (up2 I1 1192 1 ((N + 1 : Nat) : Int)) S1 U (cs + k) (ns + z) ∧ S1 100 93 = S0 100 93 := by
  obtain ⟨⟨b1, b2⟩, ⟨z1, z2, z3⟩, d, f, g1⟩ := eg
  have n60 := b1.e.2.1
  have n16 := z1.n16 b2 (by omega)
  obtain ⟨V1, V2, V3⟩ := hV
  have g10 : g' < 10 := V1.2.2
  have hI : ∀ o, ¬ nLg o → up2 I1 1192 1 ((N + 1 : Nat) : Int) o = I o := fun o ho => (funext (fun y => up2_o _ _ _ _ (by unfold nLg at ho; omega))).trans (hF o ho).2.2
  have lF : ∀ r f, lgF (up2 I1 1192 1 ((N + 1 : Nat) : Int)) g' r f = lgF I1 g' r f := fun r f => up2_o _ _ _ _ (by omega)
  have i0 : up2 I1 1192 1 ((N + 1 : Nat) : Int) 1192 0 = ((N + 1 : Nat) : Int) := (up2_k _ _ _ _ (by decide)).trans V2.1
  have i1 : up2 I1 1192 1 ((N + 1 : Nat) : Int) 1192 1 = ((N + 1 : Nat) : Int) := up2_eq _ _ _ _
  have s45 := b2.sp.2.1
  have lgq : lgEq (up2 I1 1192 1 ((N + 1 : Nat) : Int)) S1 g' (N + 1) := fun r hr => by
    rw [lF, lF, lF, lF]
    by_cases e : r < N
    · rw [hX.1 r 0 e (by decide) (by decide), hX.1 r 1 e (by decide) (by decide), hX.1 r 2 e (by decide) (by decide), hX.1 r 3 e (by decide) (by decide)]
      obtain ⟨a1, a2, a3, a4⟩ := hR r (by omega)
      rw [a1, a2, a3, a4]
      exact b2.lg.2 r e
    · have e2 : r = N + 0 := by omega
      have a := hX.2.1 0 _ rfl
      rw [e2]
      have a0 := a 0 (by decide) (by decide)
      have a1 := a 1 (by decide) (by decide)
      have a2 := a 2 (by decide) (by decide)
      have a3 := a 3 (by decide) (by decide)
      refine ⟨a0.trans hn.1.symm, a1.trans hn.2.1.symm, a2.trans hn.2.2.1.symm, a3.trans hn.2.2.2.symm⟩
  have hE : ER (up2 I1 1192 1 ((N + 1 : Nat) : Int)) S1 n (N + 1) g' lv mv q := b2.checked b1.lev b1.g10 ⟨by omega, by omega⟩ fS h44 (by rw [h45]; omega) (fun r hr => hR r (by omega)) (fun r r0 r1 => by
    have e : r = (N : Int) := by omega
    rw [e]; exact ⟨hn.1, hn.2.1⟩) hI ⟨i0, i1.trans h45.symm⟩ lgq (fun r f hr f0 f1 => (lF r f).trans (hX.1 r f hr f0 f1))
  have zC := z1.checked b2.cnt.2.1 fS h44 h45 hR hn.1
  have hB : CB K' P' (up2 I1 1192 1 ((N + 1 : Nat) : Int)) n (N + 1) g' lq lv mv := by
    have fz : ∀ o, ¬ nLg o → K' o = K o ∧ P' o = P o ∧ up2 I1 1192 1 ((N + 1 : Nat) : Int) o = I o := fun o ho => ⟨(hF o ho).1, (hF o ho).2.1, hI o ho⟩
    have tx : ∀ j, j < n → ∀ o, nTx j o → ¬ nLg o := fun j hj o ho => by unfold nTx tX at ho; unfold nLg; omega
    refine ⟨V3, ⟨V1, i0, V2.2⟩, b1.e.fr (fun o ho => fz o (by unfold nLg; omega)) ⟨(fz 999 (by unfold nLg; omega)).1, (fz 999 (by unfold nLg; omega)).2.1⟩ (fun j hj => (b1.t hj).1.fl (fun o ho => ⟨(fz o (tx j hj o ho)).1, (fz o (tx j hj o ho)).2.1⟩)), fun j hj => ⟨(b1.t hj).2.1.fl (b1.lev j hj) (fun o ho => (fz o (tx j hj o ho)).2.2), ?_⟩⟩
    rw [(fz (tX j) (tx j hj _ (by unfold nTx; omega))).2.2]
    exact (b1.t hj).2.2
  have en : ∀ o, ¬ nEg o → K' o = K o ∧ P' o = P o ∧ up2 I1 1192 1 ((N + 1 : Nat) : Int) o = I o := fun o ho => by
    have x : ¬ nLg o := by unfold nEg at ho; unfold nLg; omega
    exact ⟨(hF o x).1, (hF o x).2.1, hI o x⟩
  have fr : ∀ o y, ¬ sEg o y → S1 o y = S0 o y := fun o y ho => by
    unfold sEg at ho
    exact fS o y (by omega) (by omega)
  have f1 : ∀ y, y ≠ 44 → y ≠ 45 → S1 100 y = S0 100 y := fun y a b => fS 100 y (Or.inl (by decide)) (Or.inr ⟨a, b⟩)
  have fu : ∀ o, (o < 246 ∨ 249 < o) → o ≠ 100 → S1 o = S0 o := fun o a b => funext (fun y => fS o y a (Or.inl b))
  obtain ⟨r1, r2, r3, r4⟩ := eng_rest (c := c) (U := U) (U' := U) qy vw ev pn ⟨b2.sch.2, hE.sch.2⟩ en (by rw [(hF 1000 (by unfold nLg; omega)).2.1]) fr (St4.of (fu 214 (by omega) (by decide)) (fu 215 (by omega) (by decide))) rfl
  have e21 := fu 221 (by omega) (by decide)
  have e25 := fu 225 (by omega) (by decide)
  refine ⟨⟨n, N + 1, g', lq, lv, mv, q, nq, lqq, tn, nv, l3, l4, w, M, ⟨⟨hB, hE⟩, ⟨zC, (mNext_of e21 e25 (f1 19 (by decide) (by decide))).trans z2, by rw [f1 16 (by decide) (by decide)]; omega⟩, fun j hj => ?_, f.frm2 n60 (fun o x0 x1 => ?_), g1.frm (fun o x0 x1 => (hF o (by unfold nLg; omega)).2.1)⟩, ?_, dr.frm ⟨by rw [hI 1000 (by unfold nLg; omega)], hI 1009 (by unfold nLg; omega)⟩ ⟨fu 238 (by omega) (by decide), f1 37 (by decide) (by decide)⟩, r1, r2, r3, r4, ?_⟩, f1 93 (by decide) (by decide)⟩
  · rw [hI (tX j) (by unfold nLg tX; omega), mM_of e21 e25]
    have := d j hj
    omega
  · exact ⟨(hF o (by unfold nLg; omega)).1, hI o (by unfold nLg; omega)⟩
  · unfold QzR at *
    rw [f1 0 (by decide) (by decide)]
    omega
  · have e1 : pC g' n lv mv + g = pC g n lv mv + g' := by unfold pC; omega
    have e2 : pS g' n lv mv + lgP g = pS g n lv mv + lgP g' := by unfold pS; omega
    unfold RmR at *
    omega
theorem case_checkpoint (h : LI c L xs K P J I cs ns) (c5 : c < 512) : CaseD c L xs m_F_checkpoint [vR (some 1000)] m_Model_checkpoint [vR (some 100)] K P J I cs ns := by
  have hM := h.1.1.1.rs
  obtain ⟨S0, hS0⟩ : ∃ S0, S0 = up2 (mS I) 100 93 0 := ⟨_, rfl⟩
  have hl : LR c K P I S0 (rsI RefN J) cs ns := by rw [hS0]; exact h.2.u93
  have sy : ∀ o y, o ≠ 100 ∨ y ≠ 93 → S0 o y = mS I o y := fun o y a => by rw [hS0]; exact sx o y a
  obtain ⟨n, N, g, lq, lv, mv, q, nq, lqq, tn, nv, l3, l4, w, M, eg, qz, dr, qy, vw, ev, pn, rm⟩ := hl
  obtain ⟨⟨b1, b2⟩, ⟨z1, z2, z3⟩, d, f, g1⟩ := id eg
  have n16 := z1.n16 b2 (by omega)
  have s44 := b2.cnt.2.1
  have c44 : mS I 100 44 = (N : Int) := (sy 100 44 (Or.inr (by decide))).symm.trans s44
  obtain ⟨g', cc, zz, K', P', I1, hV, hF, hr, hX, sp⟩ := checkpoint_ex (J := J) b1.c b1.v b1.l (by omega)
  have ref := (sp_Model_checkpoint (J := rsI RefN J) (I := mS I) hM (by omega)).room (R' := rmv 12 400) (by decide) (by decide) (Nat.le_refl _) (Nat.le_refl _)
  rw [c44, show (N : Int) + 1 = ((N + 1 : Nat) : Int) by omega] at ref
  have m46 : ∀ (o : Nat) (y : Int), ¬ (o = 100 ∧ (y = 93 ∨ y = 45)) → up2 (up2 (mnotes (mS I) 4 (-1) (-2147483648) (-2147483648)) 100 45 ((N + 1 : Nat) : Int)) 100 93 0 o y = mnotes (mS I) 4 (-1) (-2147483648) (-2147483648) o y := fun o y a => (up2_x (by omega)).trans (up2_x (by omega))
  have fS : ∀ (o : Nat) (y : Int), (o < 246 ∨ 249 < o) → (o ≠ 100 ∨ (y ≠ 44 ∧ y ≠ 45)) → up2 (up2 (mnotes (mS I) 4 (-1) (-2147483648) (-2147483648)) 100 45 ((N + 1 : Nat) : Int)) 100 93 0 o y = S0 o y := fun o y a b => by
    by_cases e : o = 100 ∧ y = 93
    · rw [e.1, e.2, up2_eq, hS0, up2_eq]
    · rw [m46 o y (by omega), mnotes_fr o y a (by omega)]
      exact (sy o y (by omega)).symm
  have mn : ∀ (o : Nat) (r : Int), mnotes (mS I) 4 (-1) (-2147483648) (-2147483648) o r = if o = 100 ∧ r = 44 then mS I 100 44 + 1 else if o = 249 ∧ r = mS I 100 44 then -2147483648 else if o = 248 ∧ r = mS I 100 44 then -2147483648 else if o = 247 ∧ r = mS I 100 44 then -1 else if o = 246 ∧ r = mS I 100 44 then 4 else mS I o r := fun _ _ => rfl
  have h44 : up2 (up2 (mnotes (mS I) 4 (-1) (-2147483648) (-2147483648)) 100 45 ((N + 1 : Nat) : Int)) 100 93 0 100 44 = ((N + 1 : Nat) : Int) := by
    rw [m46 100 44 (by omega), mnotes_44]
    omega
  have h45 : up2 (up2 (mnotes (mS I) 4 (-1) (-2147483648) (-2147483648)) 100 45 ((N + 1 : Nat) : Int)) 100 93 0 100 45 = ((N + 1 : Nat) : Int) := (up2_k _ _ _ _ (by decide)).trans (up2_eq _ _ _ _)
  have hR : ∀ r : Int, r ≠ N → ∀ o, 246 ≤ o → o ≤ 249 → up2 (up2 (mnotes (mS I) 4 (-1) (-2147483648) (-2147483648)) 100 45 ((N + 1 : Nat) : Int)) 100 93 0 o r = S0 o r := fun r hr o o0 o1 => by
    rw [m46 o r (by omega), mn, if_neg (by omega), if_neg (by omega), if_neg (by omega), if_neg (by omega), if_neg (by omega)]
    exact (sy o r (by omega)).symm
  have hn : up2 (up2 (mnotes (mS I) 4 (-1) (-2147483648) (-2147483648)) 100 45 ((N + 1 : Nat) : Int)) 100 93 0 246 N = 4 ∧ up2 (up2 (mnotes (mS I) 4 (-1) (-2147483648) (-2147483648)) 100 45 ((N + 1 : Nat) : Int)) 100 93 0 247 N = -1 ∧ up2 (up2 (mnotes (mS I) 4 (-1) (-2147483648) (-2147483648)) 100 45 ((N + 1 : Nat) : Int)) 100 93 0 248 N = -2147483648 ∧ up2 (up2 (mnotes (mS I) 4 (-1) (-2147483648) (-2147483648)) 100 45 ((N + 1 : Nat) : Int)) 100 93 0 249 N = -2147483648 := by
    refine ⟨?_, ?_, ?_, ?_⟩
    · rw [m46 246 N (by omega), mn, if_neg (by omega), if_neg (by omega), if_neg (by omega), if_neg (by omega), if_pos (by omega)]
    · rw [m46 247 N (by omega), mn, if_neg (by omega), if_neg (by omega), if_neg (by omega), if_pos (by omega)]
    · rw [m46 248 N (by omega), mn, if_neg (by omega), if_neg (by omega), if_pos (by omega)]
    · rw [m46 249 N (by omega), mn, if_neg (by omega), if_pos (by omega)]
  have lr := chk_lr (U := rsI RefN J) eg qz qy vw ev pn rm dr c5 hV hF hr hX fS h44 h45 (fun r hr => ⟨hR r hr 246 (by decide) (by decide), hR r hr 247 (by decide) (by decide), hR r hr 248 (by decide) (by decide), hR r hr 249 (by decide) (by decide)⟩) hn
  have g9 : g' ≤ 9 := by have := hV.1.2.2; omega
  have lg : lgP g' ≤ 524288 := by
    have := Nat.pow_le_pow_right (n := 2) (by decide) g9
    unfold lgP
    omega
  exact case_d (kk := cc) (nn := zz) h c5 hb_1 sp ⟨by show (4 : Nat) ≤ 15; decide, by show (160 : Nat) ≤ 660; decide, rfl, rfl⟩ (by omega) (by omega) (fun o ho => ⟨(hF o (by unfold nLg; omega)).1, (hF o (by unfold nLg; omega)).2.1, (funext (fun y => up2_o _ _ _ _ (by omega))).trans (hF o (by unfold nLg; omega)).2.2⟩) ref (up2_eq _ _ _ _) lr.1
end
