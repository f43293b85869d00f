/-! begin, crash: the cases of the law -/
section
variable {K K' : KT} {P P' : PT} {J J' I I' S0 T U : IT} {c cs ns n N N' g g' lq lq' n' nq lqq tn nv l3 l4 w i k z m' x : Nat} {lv mv lv' mv' : Nat → Nat} {q q' : Int} {M : List (List Int)} {L : Nat} {xs : Int → Int} {p1 : Int}
/-- between two calls, behind a begin -/
theorem begin_lr (eg : EgR c K P I S0 n N g lq lv mv q) (qz : QzR c n nq tn S0 q) (qy : QyR K P I S0 nq lqq tn) (vw : VwI K P I S0 nq nv l3 l4) (ev : EvI2 K P I S0 w M) (pn : PnI c I S0 U nq) (rm : RmR c g n nq nv lq lqq lv mv cs ns) (dr : DrR I S0) (hn : n < 60) (hf : mTakenN S0 ≠ 4) (hB : CB K' P' I' (n + 1) N g lq' lv' mv') (hE : ER I' (mBegin S0 p1) (n + 1) N g lv' mv' (q + 4)) (hlv : ∀ j, j < n → lv' j = lv j ∧ mv' j = mv j) (hl0 : lv' n = 0 ∧ mv' n = 0) (hcz : k + lq = 7 + lq' ∧ z + pl lq = 240 + pl lq') (hF : ∀ o, ¬ nTx n o → o ≠ 1448 → ¬ (12100 < o ∧ o < 12120) → K' o = K o ∧ P' o = P o ∧ I' o = I o) (hL : FreeL P' 12100 lq') : LR (c + 1) K' P' I' (mBegin S0 p1) U (cs + k) (ns + z) ∧ mBegin S0 p1 100 93 = S0 100 93 := by
  obtain ⟨⟨b1, b2⟩, ⟨z1, z2, z3⟩, d, f, g1⟩ := eg
  obtain ⟨fs', f4, ff, fo, f1, t19, tj, ⟨o21, -, o23, o25⟩, hin, sl, hne⟩ := begin_at (x := p1) b2 hf
  have zC := z1.began (x := p1) b2 hn hf
  have m24 := mM_le hE
  generalize hT : mBegin S0 p1 = T at *
  have en : ∀ o, ¬ nEg o → K' o = K o ∧ P' o = P o ∧ I' o = I o := fun o ho => by
    unfold nEg at ho
    exact hF o (by unfold nTx tX; omega) (by omega) (by omega)
  have fr : ∀ o y, ¬ sEg o y → T o y = S0 o y := fun o y ho => by
    unfold sEg at ho
    by_cases e : o = 100
    · subst e
      exact f1 y (by omega)
    · rw [fo o (by omega) e]
  have s4 : St4 S0 T := ⟨fun k hk => sl.1 k (by omega), fun y hy => sl.2 y (by omega)⟩
  obtain ⟨r1, r2, r3, r4⟩ := eng_rest (c := c) (U := U) (U' := U) qy vw ev pn ⟨b2.sch.2, hE.sch.2⟩ en (by rw [(hF 1000 (by unfold nTx tX; omega) (by decide) (by decide)).2.1]) fr s4 rfl
  have nf : ∀ j : Int, 0 ≤ j → j < (n : Int) + 1 → ¬ mFreed T j := fun j j0 j1 hj => by
    obtain ⟨a, b⟩ := hj
    by_cases e : j = (n : Int)
    · rw [e, o21] at a; exact absurd a (by decide)
    · rw [tj 221 j (by decide) (by decide) e] at a
      rw [tj 225 j (by decide) (by decide) e] at b
      by_cases e2 : S0 225 j = (n : Int)
      · rw [e2, o21] at b; exact absurd b (by decide)
      · rw [tj 221 _ (by decide) (by decide) e2] at b
        exact none_next z2 j j0 (by rw [b2.cnt.1]; omega) ⟨a, b⟩
  have mn : mM T (n + 1) = mM S0 n + 5 := by
    have a1 : cntI (fun j => T 221 j < 2) n = cntI (fun j => S0 221 j < 2) n := cntI_eq n (fun j hj => by rw [tj 221 j (by decide) (by decide) (by omega)])
    have a2 : cntI (mFreed T) n = cntI (mFreed S0) n := cntI_eq n (fun j hj => ⟨fun u => absurd u (nf j (by omega) (by omega)), fun u => absurd u (none_next z2 j (by omega) (by rw [b2.cnt.1]; omega))⟩)
    have a3 := cntI_yes (g := fun j => T 221 j < 2) (n := n) (by show T 221 n < 2; rw [o21]; decide)
    have a4 := cntI_no (g := mFreed T) (n := n) (nf n (by omega) (by omega))
    unfold mM opC fdC
    omega
  have pc : pC g (n + 1) lv' mv' = pC g n lv mv := by
    have a := sumN_of (f := fun j => 2 * lv j + mv j) (f' := fun j => 2 * lv' j + mv' j) n (fun j hj => by rw [(hlv j hj).1, (hlv j hj).2])
    show g + (sumN (fun j => 2 * lv' j + mv' j) n + (2 * lv' n + mv' n)) = g + sumN (fun j => 2 * lv j + mv j) n
    rw [a, hl0.1, hl0.2]
    rfl
  have psz : pS g n lv mv ≤ pS g (n + 1) lv' mv' := by
    have a := sumN_of (f := fun j => ps (lv j) + pf (mv j)) (f' := fun j => ps (lv' j) + pf (mv' j)) n (fun j hj => by rw [(hlv j hj).1, (hlv j hj).2])
    show lgP g + sumN (fun j => ps (lv j) + pf (mv j)) n ≤ lgP g + (sumN (fun j => ps (lv' j) + pf (mv' j)) n + (ps (lv' n) + pf (mv' n)))
    rw [a]
    omega
  refine ⟨⟨n + 1, N, g, lq', lv', mv', q + 4, nq, lqq, tn, nv, l3, l4, w, M, ⟨⟨hB, hE⟩, ⟨zC, next_none (fun j j0 j1 => nf j j0 (by rw [t19] at j1; omega)), by rw [f1 16 (by decide)]; omega⟩, fun j hj => ?_, fun j j0 j1 a ha => ?_, hL⟩, ?_, dr.frm ⟨by rw [(hF 1000 (by unfold nTx tX; omega) (by decide) (by decide)).2.2], (hF 1009 (by unfold nTx tX; omega) (by decide) (by decide)).2.2⟩ ⟨fo 238 (by omega) (by decide), f1 37 (by decide)⟩, r1, r2, r3, r4, ?_⟩, f1 93 (by decide)⟩
  · rw [mn]
    by_cases e : j < n
    · rw [(hF (tX j) (by unfold nTx tX; omega) (by unfold tX; omega) (by unfold tX; omega)).2.2]
      have := d j e
      omega
    · have e2 : j = n := by omega
      subst e2
      have a := ((hB.2.2.2 j (by omega)).1.1).2.1
      rw [hl0.1] at a
      omega
  · have x : ¬ nTx n (tX j + a) ∧ tX j + a ≠ 1448 ∧ ¬ (12100 < tX j + a ∧ tX j + a < 12120) := by unfold nTx tX; omega
    have e := hF _ x.1 x.2.1 x.2.2
    rw [e.1, e.2.2]
    exact f j (by omega) j1 a ha
  · unfold QzR at *
    rw [f1 0 (by decide)]
    omega
  · unfold RmR at *
    rw [pc]
    omega
theorem case_begin (h : LI c L xs K P J I cs ns) (c5 : c < 512) : CaseC c L xs m_Law_begin [vR (some 1000), vI p1, vR (some 50)] m_Model_begin [vR (some 100), vI p1] K P J I cs ns := by
  obtain ⟨k1, k2⟩ := h.k1000
  have hM := h.1.1.1.rs
  have rm0 := h.2.room (by omega)
  obtain ⟨S0, hS0⟩ : ∃ S0, S0 = up2 (mS I) 100 93 0 := ⟨_, rfl⟩
  have hl : LR c K P I S0 (rsI RefN J) cs ns := by rw [hS0]; exact h.2.u93
  have sy : ∀ o y, o ≠ 100 ∨ y ≠ 93 → S0 o y = mS I o y := fun o y a => by rw [hS0]; exact sx o y a
  obtain ⟨n, N, g, lq, lv, mv, q, nq, lqq, tn, nv, l3, l4, w, M, eg, qz, dr, qy, vw, ev, pn, rm⟩ := hl
  obtain ⟨⟨b1, b2⟩, ⟨z1, z2, z3⟩, d, f, g1⟩ := id eg
  have s19 := b2.cnt.1
  have c19 := s19
  rw [sy 100 19 (Or.inr (by decide))] at c19
  have n60 := b1.e.2.1
  have mb : MB (mS I) := b2.mb.u93 (fun o y a => (sy o y a).symm)
  have hb := hb_i (z := p1) hb_1
  have eh := ez_2 (a := eIOO) (b := eISE) (x := 1) (y := 2) (by decide) (by decide)
  have tk : mTakenN S0 = mTakenN (mS I) := by
    unfold mTakenN
    rw [show S0 226 = mS I 226 from funext (fun y => sy 226 y (Or.inl (by decide)))]
  have op1 := opN_eq b2
  have op2 := taken_eq b2
  have op4 := open4 b2
  by_cases hc : 0 ≤ p1 ∧ p1 ≤ 3
  · have n1 : ¬ bI (0 ≤ p1 ∧ p1 ≤ 3) = 0 := by rw [bI1 hc]; decide
    by_cases h0 : mTakenN (mS I) = 4 ∨ mS I 100 19 = 60
    · have cd2 : cd_Model_begin (mS I) p1 = 2 := (if_neg n1).trans (if_pos h0)
      exact case_ex (es := [(eIOO, 1), (eISE, 2)]) h c5 hb eh (es_2 nIS) (fun _ s x r => lw_begin k1 k2 s x r) (begin_no2 b1.c b1.e hc (by omega)) (by decide) (by decide) (Or.inl ⟨(eISE, 2), _, List.mem_cons_of_mem _ (List.mem_singleton.mpr rfl), rfl, ref_1 (sp_Model_begin (J := rsI RefN J) (I := mS I) (x := p1) hM mb) cd2 (by decide) (by decide) (by decide)⟩)
    · have cd0 : cd_Model_begin (mS I) p1 = 0 := (if_neg n1).trans (if_neg h0)
      have hf : mTakenN S0 ≠ 4 := fun e => h0 (Or.inl (tk.symm.trans e))
      have hn : n < 60 := by omega
      have q2 := qz.q2 c5 b2.mb.tab.1
      obtain ⟨rz1, rz2⟩ := z1.2.2.2.1
      obtain ⟨lq', cc, zz, K', P', I', lv', mv', hB', hE', hlv, hl0, hcz, hF, hL', sp⟩ := begin_run (J := J) b1 b2 hc hf (by omega) ⟨qz.1, q2.1⟩ ⟨rz1 n (by omega), fun t t0 t1 => rz2 n (by omega) (by omega) t t0 t1⟩ f g1
      have l12 := hB'.e.1.2.2.1
      have pl1 := pl_b lq' l12
      have spE := sp.toE.room (R' := ({ frames := 14, cells := 603072 - cs, slots := 7207018 - ns, locals := 600 } : Room)) (by show 11 ≤ 14; omega) (by show 420 ≤ 600; omega) (by show cc ≤ 603072 - cs; omega) (by show zz ≤ 7207018 - ns; omega)
      refine case_mk h.1 (by omega) hb (lw_begin k1 k2 spE (fun k z E K1 P1 J1 I1 hq => ?_) (fun k z r K1 P1 J1 I1 hq => ?_)) eh (fun q hq K1 P1 J1 I1 k z hQ => ?_) (fun v K1 P1 J1 I1 k z hQ => ?_)
      · obtain ⟨⟨e1, -⟩, -⟩ := hq
        cases e1
      · obtain ⟨⟨e1, e2, -⟩, ek, en⟩ := hq
        injection e1 with e1
        have ek2 : k = cc := ek
        have en2 : z = zz := en
        exact ⟨⟨_, e1⟩, by rw [e2]; exact (hF 50 (by unfold nTx tX; omega) (by decide) (by decide)).1.trans k2, by omega, by omega⟩
      · obtain ⟨⟨e1, -⟩, -⟩ := hQ
        cases e1
      · obtain ⟨⟨e1, e2, e3, e4, e5⟩, ek, en⟩ := hQ
        subst e2; subst e3; subst e4; subst e5; subst ek; subst en
        injection e1 with e1
        injection e1 with e1
        injection e1 with e1
        refine ⟨rfl, ?_⟩
        have sp2 : Sp m_Model_begin false (rmv 12 400) (ex (rsK RefN K) (rsP RefN P) (rsI RefN J1) (mBegin S0 p1) (.inl (some (vI (S0 100 19))))) (rsK RefN K) (rsP RefN P) (rsI RefN J1) (mS I) [vR (some 100), vI p1] := by
          rw [hS0]
          exact ref_0 (sp_Model_begin (J := rsI RefN J1) (I := mS I) (x := p1) hM mb) cd0 (by decide) (by decide)
        have lr := begin_lr eg qz qy vw ev pn rm dr hn hf hB' hE' hlv hl0 hcz hF hL'
        refine ⟨fun o ho => hF o (by unfold nTx tX; omega) (by omega) (by omega), _, sp2, fun r K2 P2 J2 I2 hq => ?_⟩
        obtain ⟨q1, q2, q3, q4, q5⟩ := hq
        subst q4
        subst q5
        refine ⟨q2, q3, _, q1, ?_, fun _ => by rw [e1, s19], lr.1⟩
        rw [lr.2, hS0, up2_eq]
  · have cd1 : cd_Model_begin (mS I) p1 = 1 := if_pos (bI0 hc)
    exact case_ex (es := [(eIOO, 1), (eISE, 2)]) h c5 hb eh (es_2 nIS) (fun _ s x r => lw_begin k1 k2 s x r) (begin_no1 b1.c hc) (by decide) (by decide) (Or.inl ⟨(eIOO, 1), _, List.mem_cons_self .., rfl, ref_1 (sp_Model_begin (J := rsI RefN J) (I := mS I) (x := p1) hM mb) cd1 (by decide) (by decide) (by decide)⟩)
theorem crash_fr (hE : ER I S0 n N g lv mv q) : (∀ (o : Nat) (y : Int), o ≠ 221 → o ≠ 225 → o ≠ 226 → (o < 246 ∨ 249 < o) → (o ≠ 100 ∨ (y ≠ 44 ∧ y ≠ 45)) → up2 (mCrR S0 x).1 100 45 ((mCrR S0 x).1 100 44) o y = S0 o y) ∧ (∀ j : Nat, j < n → up2 (mCrR S0 x).1 100 45 ((mCrR S0 x).1 100 44) 221 j = if S0 221 j < 2 then 3 else S0 221 j) ∧ 0 ≤ (mCrR S0 x).1 100 44 ∧ mCrR S0 x = mCr2 (mCrS S0 x) n := by
  obtain ⟨c1, c2, c3, -⟩ := crS_at (x := x) hE.cnt.1
  have eR : mCrR S0 x = mCr2 (mCrS S0 x) n := by unfold mCrR; rw [hE.cnt.1, Int.toNat_natCast]
  obtain ⟨u0, u1, u2⟩ := mCr2_n (mCrS S0 x) n
  rw [eR]
  refine ⟨fun o y a b d e h => ?_, fun j hj => ?_, by omega, rfl⟩
  · have u : up2 (mCr2 (mCrS S0 x) n).1 100 45 ((mCr2 (mCrS S0 x) n).1 100 44) o y = (mCr2 (mCrS S0 x) n).1 o y := if_neg (fun z => by omega)
    rw [u, u2 o y e (by omega)]
    exact c1 o y a b d (by omega)
  · rw [up2_o _ _ _ _ (by decide), u2 221 j (Or.inl (by decide)) (Or.inl (by decide))]
    exact c3 j hj
/-- between two calls, behind a crash -/
theorem crash_lr (eg : EgR c K P I S0 n N g lq lv mv q) (qz : QzR c n nq tn S0 q) (qy : QyR K P I S0 nq lqq tn) (vw : VwI K P I S0 nq nv l3 l4) (ev : EvI2 K P I S0 w M) (pn : PnI c I S0 U nq) (rm : RmR c g n nq nv lq lqq lv mv cs ns) (dr : DrR I S0) (hx : S0 100 45 ≤ x ∧ x ≤ N) (hT : T = up2 (mCrR S0 x).1 100 45 ((mCrR S0 x).1 100 44)) (hB : CB K' P' I' n N' g' lq lv mv) (hE : ER I' T n N' g' lv mv q) (hr : k + g = g' ∧ z + lgP g = lgP g') (hc : ∀ j, j < n → I' (tX j) 14 = I (tX j) 14) (hF : Fr (nEn n) K P I K' P' I') : LR (c + 1) K' P' I' T U (cs + k) (ns + z) ∧ T 100 93 = S0 100 93 := by
  obtain ⟨⟨b1, b2⟩, ⟨z1, z2, z3⟩, d, f, g1⟩ := eg
  have n60 := b1.e.2.1
  obtain ⟨cf, c21, -, -⟩ := crash_fr (x := x) b2
  have zC := (z1.crashed b2 hx).1
  rw [← hT] at cf c21 zC
  have en : ∀ o, ¬ nEg o → K' o = K o ∧ P' o = P o ∧ I' o = I o := fun o ho => hF o (by unfold nEg at ho; unfold nEn; omega)
  have fr : ∀ o y, ¬ sEg o y → T o y = S0 o y := fun o y ho => by
    unfold sEg at ho
    exact cf o y (by omega) (by omega) (by omega) (by omega) (by omega)
  have f1 : ∀ y, y ≠ 44 → y ≠ 45 → T 100 y = S0 100 y := fun y a b => cf 100 y (by decide) (by decide) (by decide) (Or.inl (by decide)) (Or.inr ⟨a, b⟩)
  have fu : ∀ o, (o = 214 ∨ o = 215 ∨ o = 238) → T o = S0 o := fun o ho => funext (fun y => cf o y (by omega) (by omega) (by omega) (by omega) (by omega))
  obtain ⟨r1, r2, r3, r4⟩ := eng_rest (c := c) (U := U) (U' := U) qy vw ev pn ⟨b2.sch.2, hE.sch.2⟩ en (by rw [(hF 1000 (by unfold nEn; omega)).2.1]) fr (St4.of (fu 214 (by decide)) (fu 215 (by decide))) rfl
  have ph := b2.ph
  have no1 : ∀ j : Nat, j < n → ¬ T 221 j < 2 := fun j hj => by
    rw [c21 j hj]
    split
    · decide
    · assumption
  have nf : ∀ j : Nat, j < n → ¬ mFreed T j := fun j hj hf => no1 j hj (by rw [hf.1]; decide)
  have mm : mM T n ≤ mM S0 n := by
    have a1 := cntI_le (g := fun j => T 221 j < 2) (h := fun j => S0 221 j < 2) n (fun j hj u => absurd u (no1 j hj))
    have a2 := cntI_le (g := mFreed T) (h := mFreed S0) n (fun j hj u => absurd u (nf j hj))
    unfold mM opC fdC
    omega
  refine ⟨⟨n, N', g', lq, lv, mv, q, nq, lqq, tn, nv, l3, l4, w, M, ⟨⟨hB, hE⟩, ⟨zC, next_none (fun j j0 j1 hf => ?_), by rw [f1 16 (by decide) (by decide)]; omega⟩, fun j hj => ?_, f.frm2 n60 (fun o x0 x1 => ?_), g1.frm (fun o x0 x1 => (hF o (by unfold nEn; omega)).2.1)⟩, ?_, dr.frm ⟨by rw [(hF 1000 (by unfold nEn; omega)).2.2], (hF 1009 (by unfold nEn; omega)).2.2⟩ ⟨fu 238 (by decide), f1 37 (by decide) (by decide)⟩, r1, r2, r3, r4, ?_⟩, f1 93 (by decide) (by decide)⟩
  · rw [f1 19 (by decide) (by decide), b2.cnt.1] at j1
    have e : ((j.toNat : Nat) : Int) = j := by omega
    exact nf j.toNat (by omega) (by rw [e]; exact hf)
  · have a := hc j hj
    have b := d j hj
    omega
  · have a := hF o (by unfold nEn; omega)
    exact ⟨a.1, a.2.2⟩
  · unfold QzR at *
    rw [f1 0 (by decide) (by decide)]
    omega
  · have e1 : pC g' n lv mv + g = pC g n lv mv + g' := by unfold pC; omega
    have e2 : pS g' n lv mv + lgP g = pS g n lv mv + lgP g' := by unfold pS; omega
    unfold RmR at *
    omega
theorem case_crash (h : LI c L xs K P J I cs ns) (c5 : c < 512) : CaseC c L xs m_Law_crash [vR (some 1000), vI p1, vR (some 50)] m_Model_crash [vR (some 100), vI p1] K P J I cs ns := by
  obtain ⟨k1, k2⟩ := h.k1000
  have hM := h.1.1.1.rs
  have rm0 := h.2.room (by omega)
  obtain ⟨S0, hS0⟩ : ∃ S0, S0 = up2 (mS I) 100 93 0 := ⟨_, rfl⟩
  have hl : LR c K P I S0 (rsI RefN J) cs ns := by rw [hS0]; exact h.2.u93
  have sy : ∀ o y, o ≠ 100 ∨ y ≠ 93 → S0 o y = mS I o y := fun o y a => by rw [hS0]; exact sx o y a
  obtain ⟨n, N, g, lq, lv, mv, q, nq, lqq, tn, nv, l3, l4, w, M, eg, qz, dr, qy, vw, ev, pn, rm⟩ := hl
  obtain ⟨⟨b1, b2⟩, ⟨z1, z2, z3⟩, d, f, g1⟩ := id eg
  have mb : MB (mS I) := b2.mb.u93 (fun o y a => (sy o y a).symm)
  have hb := hb_i (z := p1) hb_1
  have eh := ez_1 (a := eIOO) (x := 1) (by decide)
  have s44 := b2.cnt.2.1
  have c44 := s44
  rw [sy 100 44 (Or.inr (by decide))] at c44
  have s45 := b2.sp.2.1
  have l45 := b2.lg.1
  have c45 := sy 100 45 (Or.inr (by decide))
  have n16 := z1.n16 b2 (by omega)
  by_cases hc : mS I 100 45 ≤ p1 ∧ p1 ≤ mS I 100 44
  · have cd0 : cd_Model_crash (mS I) p1 = 0 := if_neg (by rw [bI1 hc]; decide)
    obtain ⟨x, hx⟩ : ∃ x : Nat, p1 = x := ⟨p1.toNat, by omega⟩
    subst hx
    have hx : S0 100 45 ≤ x ∧ x ≤ N := by omega
    obtain ⟨zC, -⟩ := z1.crashed b2 hx
    obtain ⟨cf, c21, c0, cR⟩ := crash_fr (x := x) b2
    have en : nS (up2 (mCrR S0 x).1 100 45 ((mCrR S0 x).1 100 44)) = n := by
      unfold nS
      rw [cf 100 19 (by decide) (by decide) (by decide) (Or.inl (by decide)) (Or.inr (by decide)), b2.cnt.1, Int.toNat_natCast]
    have wd : WrD (up2 (mCrR S0 x).1 100 45 ((mCrR S0 x).1 100 44)) := by
      intro j l y hj hl oj ol a b
      rw [en] at hj
      unfold opA at oj
      rw [c21 j hj] at oj
      split at oj <;> omega
    have num := (zC.1.num wd (by omega)).1
    rw [up2_k _ _ _ _ (by decide)] at num
    have num2 : (mCrR S0 x).1 100 44 < 16320 := by omega
    have hcm : ∀ r, 0 ≤ r → r < (N : Int) → S0 246 r = 1 → r < S0 100 45 := fun r r0 r1 r2 => z1.2.2.2.2.1 r r0 (by omega) (Or.inl r2)
    have hU : ∀ k : Nat, k ≤ n → (mCr2 (mCrS S0 x) k).1 100 44 ≤ 16383 := fun k hk => by
      have := mCr2_mono (mCrS S0 x) k n hk
      rw [← cR] at this
      omega
    obtain ⟨hX, hd, hX2⟩ := LR.hx eg qy vw rm c5
    have sp := crash_ex (J := J) (X := 603072 - cs) (Y := 7207018 - ns) b1 b2 hx hcm hU (by omega)
    refine case_mk h.1 (by omega) hb (lw_crash k1 k2 (sp.room (by show 13 ≤ 14; omega) (by show 560 ≤ 600; omega) (Nat.le_refl _) (Nat.le_refl _)) (fun k z E K' P' J' I' hq => ?_) (fun k z r K' P' J' I' hq => ?_)) eh (fun q hq K' P' J' I' k z hQ => ?_) (fun v K' P' J' I' k z hQ => ?_)
    · obtain ⟨-, N', g', e, -⟩ := hq
      cases e
    · obtain ⟨-, N', g', e, e2, -, e4, -, e6⟩ := hq
      injection e with e
      have g10 := e2.g10
      have lg : lgP g' ≤ 524288 := by
        have : g' ≤ 9 := by omega
        have := Nat.pow_le_pow_right (n := 2) (by decide) this
        unfold lgP
        omega
      exact ⟨⟨_, e⟩, (e6 50 (by unfold nEn; omega)).1.trans k2, by omega, by omega⟩
    · obtain ⟨-, N', g', e, -⟩ := hQ
      cases e
    · obtain ⟨eJ, N', g', e, e2, e3, e4, e5, e6⟩ := hQ
      injection e with e
      injection e with e
      injection e with e
      refine ⟨eJ, ?_⟩
      have sp2 : Sp m_Model_crash false (rmv 12 400) (ex (rsK RefN K) (rsP RefN P) (rsI RefN J) (up2 (mCrR S0 x).1 100 45 ((mCrR S0 x).1 100 44)) (.inl (some (vI (mCrR S0 x).2)))) (rsK RefN K) (rsP RefN P) (rsI RefN J) (mS I) [vR (some 100), vI (x : Int)] := by
        rw [hS0]
        exact ref_0 (sp_Model_crash (J := rsI RefN J) (I := mS I) (x := (x : Int)) hM mb (by omega) (fun _ => by rw [← hS0]; omega)) cd0 (by decide) (by decide)
      have lr := crash_lr eg qz qy vw ev pn rm dr hx rfl e2 e3 e4 e5 e6
      refine ⟨fun o ho => e6 o (by unfold nEn; omega), _, sp2, fun r K1 P1 J1 I1 hq => ?_⟩
      obtain ⟨q1, q2, q3, q4, q5⟩ := hq
      subst q4
      subst q5
      refine ⟨q2, q3, _, q1, ?_, fun _ => e, lr.1⟩
      rw [lr.2, hS0, up2_eq]
  · have cd1 : cd_Model_crash (mS I) p1 = 1 := if_pos (bI0 hc)
    exact case_ex (es := [(eIOO, 1)]) h c5 hb eh es_1 (fun _ s x r => lw_crash k1 k2 s x r) (crash_no1 b1.c (by omega)) (by decide) (by decide) (Or.inl ⟨(eIOO, 1), _, List.mem_cons_self .., rfl, ref_1 (sp_Model_crash (J := rsI RefN J) (I := mS I) (x := p1) hM mb (by omega) (fun z => absurd (z.symm.trans cd1) (by decide))) cd1 (by decide) (by decide) (by decide)⟩)
end
