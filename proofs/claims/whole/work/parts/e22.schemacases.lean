/-! table, check, veil: the cases of the law -/
section
variable {K K' : KT} {P P' : PT} {J J' I I' I1 S0 S1 S T U : IT} {c cs ns n N N' g g' lq lq' nq lqq tn nv l3 l4 w i k z x : Nat} {lv mv lv' mv' : Nat → Nat} {q q' : Int} {M : List (List Int)} {L : Nat} {xs : Int → Int} {p1 p2 p3 p4 p5 : Int}
theorem up2_x {S : IT} {a o : Nat} {j v y : Int} (h : ¬ (o = a ∧ y = j)) : up2 S a j v o y = S o y := if_neg h
theorem filI_in {S : IT} {a : Nat} {lo hi v y : Int} (h : lo ≤ y ∧ y < hi) : filI S a lo hi v a y = v := if_pos ⟨rfl, h.1, h.2⟩
theorem under_same (e : ∀ o y, o ≠ 100 ∨ y ≠ 93 → S0 o y = S o y) : mUnder S0 = mUnder S := by
  unfold mUnder
  rw [show S0 221 = S 221 from funext (fun y => e 221 y (Or.inl (by decide))), e 100 19 (Or.inr (by decide))]
theorem case_table (h : LI c L xs K P J I cs ns) (c5 : c < 512) : CaseC c L xs m_Law_table [vR (some 1000), vI p1, vR (some 50)] m_Model_table [vR (some 100), vI p1] K P J I cs ns := by
  obtain ⟨k1, k2⟩ := h.k1000
  have hM := h.1.1.1.rs
  obtain ⟨S0, hS0⟩ : ∃ S0, S0 = up2 (mS I) 100 93 0 := ⟨_, rfl⟩
  have hl : LR c K P I S0 (rsI RefN J) cs ns := by rw [hS0]; exact h.2.u93
  have sy : ∀ o y, o ≠ 100 ∨ y ≠ 93 → S0 o y = mS I o y := fun o y a => by rw [hS0]; exact sx o y a
  obtain ⟨n, N, g, lq, lv, mv, q, nq, lqq, tn, nv, l3, l4, w, M, eg, qz, dr, qy, vw, ev, pn, rm⟩ := hl
  obtain ⟨⟨b1, b2⟩, ⟨z1, z2, z3⟩, d, f, g1⟩ := id eg
  have mb : MB (mS I) := b2.mb.u93 (fun o y a => (sy o y a).symm)
  have hb := hb_i (z := p1) hb_1
  have eh := ez_2 (a := eIAE) (b := eISE) (x := 1) (y := 2) (by decide) (by decide)
  obtain ⟨s0, s6, s00, sw⟩ := sch_of b2
  have c0 := sy 100 0 (Or.inr (by decide))
  have hu := (under_eq b2).1
  rw [under_same sy] at hu
  by_cases hc : 1 ≤ p1 ∧ p1 ≤ 4
  · have n1 : ¬ bI (1 ≤ p1 ∧ p1 ≤ 4) = 0 := by rw [bI1 hc]; decide
    by_cases h0 : mS I 100 0 = 6 ∨ bI (mUnder (mS I)) ≠ 0
    · have cd2 : cd_Model_table (mS I) p1 = 2 := (if_neg n1).trans (if_pos h0)
      exact case_ex (es := [(eIAE, 1), (eISE, 2)]) h c5 hb eh (es_2 nAS) (fun _ s x r => lw_table k1 k2 s x r) (table_no2 b1.c b1.e hc (fun y => h0.elim (fun u => by omega) (fun u => y.2 (hu.mp u)))) (by decide) (by decide) (Or.inl ⟨(eISE, 2), _, List.mem_cons_of_mem _ (List.mem_singleton.mpr rfl), rfl, ref_1 (sp_Model_table (J := rsI RefN J) (I := mS I) (x := p1) hM mb) cd2 (by decide) (by decide) (by decide)⟩)
    · have cd0 : cd_Model_table (mS I) p1 = 0 := (if_neg n1).trans (if_neg h0)
      have nu : ¬ 0 < opN I n := fun y => h0 (Or.inr (hu.mpr y))
      have hno := (under_eq b2).2 nu
      have n20 := qy.1.1.2.1
      have dp0 : dpI I nq 1032 0 = I 1032 0 := by rw [dpI_o (Or.inl (by decide)) nq n20]
      have h6 : S0 100 0 < 6 := by
        rcases Classical.em (mS I 100 0 = 6) with y | y
        · exact absurd (Or.inl y) h0
        · omega
      obtain ⟨hE, hv⟩ := ER.table b2 b1.lev b1.g10 hno n20 hc h6
      have sp := table_run (J := J) b1.c b1.e qy.1.1 hc (by omega) (bI0 nu) (by rw [dp0]; omega)
      rw [hv] at sp
      have sp2 : Sp m_Model_table false (rmv 12 400) (ex (rsK RefN K) (rsP RefN P) (rsI RefN J) (f_Model_table p1 S0).1 (.inl (some (vI (f_Model_table p1 S0).2)))) (rsK RefN K) (rsP RefN P) (rsI RefN J) (mS I) [vR (some 100), vI p1] := by
        rw [hS0]
        exact ref_0 (sp_Model_table (J := rsI RefN J) (I := mS I) (x := p1) hM mb) cd0 (by decide) (by decide)
      have fS : ∀ o y, ¬ (o = 201 ∧ y = S0 100 0) → o ≠ 263 → ¬ (o = 100 ∧ y = 0) → (f_Model_table p1 S0).1 o y = S0 o y := fun o y a b e => (filI_fr b).trans ((up2_x e).trans (up2_x a))
      have f0 : (f_Model_table p1 S0).1 100 0 = S0 100 0 + 1 := by
        unfold f_Model_table
        dsimp only
        rw [filI_fr (by decide), up2_eq]
      have f263 : ∀ y, 0 ≤ y → y < 20 → (f_Model_table p1 S0).1 263 y = 0 := fun y y0 y1 => filI_in ⟨y0, y1⟩
      have fI : ∀ o, ¬ (1032 ≤ o ∧ o < 1064) → up2 (up2 (dpI I nq) 1034 (dpI I nq 1032 0) p1) 1032 0 (dpI I nq 1032 0 + 1) o = dpI I nq o := fun o ho => funext (fun y => by rw [up2_o _ _ _ _ (by omega), up2_o _ _ _ _ (by omega)])
      generalize up2 (up2 (dpI I nq) 1034 (dpI I nq 1032 0) p1) 1032 0 (dpI I nq 1032 0 + 1) = I1 at *
      generalize (f_Model_table p1 S0).1 = S1 at *
      have zT := z1.table b2.sch.2 (fun j hj oj => hno j ⟨by rw [b2.wrd.2] at hj; exact hj, oj⟩) fS f0
      have zC : ZI (c + 1) (-1) S1 := zT.same (fun _ _ => rfl) (fun _ _ => rfl) (by omega)
      have lr := sch_lr (U := rsI RefN J) eg qz qy vw ev pn rm dr fI (fun o y a b e => fS o y (by omega) b (by omega)) f263 hE zC (fun t t0 t1 => fS 201 t (by omega) (by decide) (by omega)) (by omega) (fun t ρ => rowSeen_of (fS 100 8 (by omega) (by decide) (by omega)) (fun o x0 x1 => funext (fun y => fS o y (by omega) (by omega) (by omega))))
      exact case_det (es := [(eIAE, 1), (eISE, 2)]) (kk := 0) (nn := 0) h c5 hb eh (fun s x r => lw_table k1 k2 s x r) sp ⟨by decide, by decide, rfl, rfl⟩ (by decide) (by decide) (fun o ho => ⟨rfl, rfl, (fI o (by omega)).trans (dpI_o (Or.inl (by omega)) nq n20)⟩) sp2 (by rw [lr.2, hS0, up2_eq]) lr.1
  · have cd1 : cd_Model_table (mS I) p1 = 1 := if_pos (bI0 hc)
    exact case_ex (es := [(eIAE, 1), (eISE, 2)]) h c5 hb eh (es_2 nAS) (fun _ s x r => lw_table k1 k2 s x r) (table_no1 b1.c hc) (by decide) (by decide) (Or.inl ⟨(eIAE, 1), _, List.mem_cons_self .., rfl, ref_1 (sp_Model_table (J := rsI RefN J) (I := mS I) (x := p1) hM mb) cd1 (by decide) (by decide) (by decide)⟩)
theorem case_check (h : LI c L xs K P J I cs ns) (c5 : c < 512) : CaseC c L xs m_Law_check [vR (some 1000), vI p1, vI p2, vI p3, vI p4, vR (some 50)] m_Model_check [vR (some 100), vI p1, vI p2, vI p3, vI p4] K P J I cs ns := by
  obtain ⟨k1, k2⟩ := h.k1000
  have hM := h.1.1.1.rs
  obtain ⟨S0, hS0⟩ : ∃ S0, S0 = up2 (mS I) 100 93 0 := ⟨_, rfl⟩
  have hl : LR c K P I S0 (rsI RefN J) cs ns := by rw [hS0]; exact h.2.u93
  have sy : ∀ o y, o ≠ 100 ∨ y ≠ 93 → S0 o y = mS I o y := fun o y a => by rw [hS0]; exact sx o y a
  obtain ⟨n, N, g, lq, lv, mv, q, nq, lqq, tn, nv, l3, l4, w, M, eg, qz, dr, qy, vw, ev, pn, rm⟩ := hl
  obtain ⟨⟨b1, b2⟩, ⟨z1, z2, z3⟩, d, f, g1⟩ := id eg
  have mb : MB (mS I) := b2.mb.u93 (fun o y a => (sy o y a).symm)
  have hb := hb_i (z := p4) (hb_i (z := p3) (hb_i (z := p2) (hb_i (z := p1) hb_1)))
  have eh := ez_3 (a := eIOO) (b := eIAE) (d := eISE) (x := 1) (y := 2) (z := 3) (by decide) (by decide) (by decide)
  obtain ⟨s0, s6, s00, sw⟩ := sch_of b2
  have c0 := sy 100 0 (Or.inr (by decide))
  have c1 := sy 201 p1 (Or.inl (by decide))
  have c2 := sy 202 p1 (Or.inl (by decide))
  have c3 := sy 214 (24 + p1) (Or.inl (by decide))
  have hu := (under_eq b2).1
  rw [under_same sy] at hu
  have rs := b2.sch.1.2.1
  by_cases hc : 0 ≤ p1 ∧ p1 < mS I 100 0 ∧ 0 ≤ p2 ∧ p2 < mS I 201 p1
  · have n1 : ¬ bI (0 ≤ p1 ∧ p1 < mS I 100 0 ∧ 0 ≤ p2 ∧ p2 < mS I 201 p1) = 0 := by rw [bI1 hc]; decide
    have t6 : 0 ≤ p1 ∧ p1 < 6 := by omega
    have rw1 := rs p1 t6.1 t6.2
    have ro := rowsOf_eq b2 t6
    have hcc : (0 ≤ p1 ∧ p1 < I 1032 0) ∧ 0 ≤ p2 ∧ p2 < I 1034 p1 := by omega
    by_cases hw : (0 ≤ p3 ∧ p3 ≤ 2) ∧ -1000 ≤ p4 ∧ p4 ≤ 1000
    · have n2 : ¬ (bI (0 ≤ p3 ∧ p3 ≤ 2) = 0 ∨ bI (-1000 ≤ p4 ∧ p4 ≤ 1000) = 0) := fun y => y.elim (fun u => by rw [bI1 hw.1] at u; exact absurd u (by decide)) (fun u => by rw [bI1 hw.2] at u; exact absurd u (by decide))
      have b4 := (b2.sch.2.2.2.2.1 p1 t6.1 t6.2)
      by_cases h0 : mS I 202 p1 = 4 ∨ 0 < mS I 214 (24 + p1) ∨ bI (mUnder (mS I)) ≠ 0
      · have cd3 : cd_Model_check (mS I) p1 p2 p3 p4 = 3 := (if_neg n1).trans ((if_neg n2).trans (if_pos h0))
        exact case_ex (es := [(eIOO, 1), (eIAE, 2), (eISE, 3)]) h c5 hb eh (es_3 nIA nIS nAS) (fun _ s x r => lw_check k1 k2 s x r) (check_no3 b1.c b1.e s6 hcc hw.1 hw.2 (fun y => by
          rcases h0 with u | u | u
          · omega
          · omega
          · exact y.2.2 (hu.mp u))) (by decide) (by decide) (Or.inl ⟨(eISE, 3), _, List.mem_cons_of_mem _ (List.mem_cons_of_mem _ (List.mem_singleton.mpr rfl)), rfl, ref_1 (sp_Model_check (J := rsI RefN J) (I := mS I) (t := p1) (c := p2) (w := p3) (v := p4) hM mb) cd3 (by decide) (by decide) (by decide)⟩)
      · have cd0 : cd_Model_check (mS I) p1 p2 p3 p4 = 0 := (if_neg n1).trans ((if_neg n2).trans (if_neg h0))
        have nu : ¬ 0 < opN I n := fun y => h0 (Or.inr (Or.inr (hu.mpr y)))
        have hno := (under_eq b2).2 nu
        have n20 := qy.1.1.2.1
        have dp0 : dpI I nq 1035 p1 = I 1035 p1 := by rw [dpI_o (Or.inl (by decide)) nq n20]
        have h4 : S0 202 p1 < 4 := by
          rcases Classical.em (mS I 202 p1 = 4) with y | y
          · exact absurd (Or.inl y) h0
          · omega
        have h14 : S0 214 (24 + p1) ≤ 0 := by
          rcases Classical.em (0 < mS I 214 (24 + p1)) with y | y
          · exact absurd (Or.inr (Or.inl y)) h0
          · omega
        have m14 := (b2.st.2.1.1 p1 t6.1 t6.2)
        rw [show (6 : Int) * 4 = 24 from rfl] at m14
        obtain ⟨hE, hv⟩ := ER.check (w := p3) (v := p4) b2 b1.lev b1.g10 hno n20 (show 0 ≤ p1 ∧ p1 < S0 100 0 by omega) (show 0 ≤ p2 ∧ p2 < S0 201 p1 by omega) h4 h14
        have sp := check_run (J := J) b1.c b1.e qy.1.1 s6 hcc hw.1 hw.2 (by omega) (by omega) (bI0 nu) (by rw [dp0]; omega)
        have sp2 : Sp m_Model_check false (rmv 12 400) (ex (rsK RefN K) (rsP RefN P) (rsI RefN J) (f_Model_check p1 p2 p3 p4 S0).1 (.inl (some (vI (f_Model_check p1 p2 p3 p4 S0).2)))) (rsK RefN K) (rsP RefN P) (rsI RefN J) (mS I) [vR (some 100), vI p1, vI p2, vI p3, vI p4] := by
          rw [hS0]
          exact ref_0 (sp_Model_check (J := rsI RefN J) (I := mS I) (t := p1) (c := p2) (w := p3) (v := p4) hM mb) cd0 (by decide) (by decide)
        rw [← hv] at sp2
        have fS : ∀ o y, ¬ (202 ≤ o ∧ o ≤ 205) → o ≠ 263 → (f_Model_check p1 p2 p3 p4 S0).1 o y = S0 o y := fun o y a b => (filI_fr b).trans ((up2_o _ _ _ _ (by omega)).trans ((up2_o _ _ _ _ (by omega)).trans ((up2_o _ _ _ _ (by omega)).trans (up2_o _ _ _ _ (by omega)))))
        have f263 : ∀ y, 0 ≤ y → y < 20 → (f_Model_check p1 p2 p3 p4 S0).1 263 y = 0 := fun y y0 y1 => filI_in ⟨y0, y1⟩
        have fI : ∀ o, ¬ (1032 ≤ o ∧ o < 1064) → up2 (up2 (up2 (up2 (dpI I nq) 1036 ((p1 * 4 + dpI I nq 1035 p1) * 3) p2) 1036 (((p1 * 4 + dpI I nq 1035 p1) * 3) + 1) p3) 1036 (((p1 * 4 + dpI I nq 1035 p1) * 3) + 2) p4) 1035 p1 (dpI I nq 1035 p1 + 1) o = dpI I nq o := fun o ho => funext (fun y => by rw [up2_o _ _ _ _ (by omega), up2_o _ _ _ _ (by omega), up2_o _ _ _ _ (by omega), up2_o _ _ _ _ (by omega)])
        generalize up2 (up2 (up2 (up2 (dpI I nq) 1036 ((p1 * 4 + dpI I nq 1035 p1) * 3) p2) 1036 (((p1 * 4 + dpI I nq 1035 p1) * 3) + 1) p3) 1036 (((p1 * 4 + dpI I nq 1035 p1) * 3) + 2) p4) 1035 p1 (dpI I nq 1035 p1 + 1) = I1 at *
        generalize (f_Model_check p1 p2 p3 p4 S0).1 = S1 at *
        have fo : ∀ o, ¬ (202 ≤ o ∧ o ≤ 205) → o ≠ 263 → S1 o = S0 o := fun o a b => funext (fun y => fS o y a b)
        have zC : ZI (c + 1) (-1) S1 := z1.same (fun o ho => fo o (by omega) (by omega)) (fun y _ => by rw [fo 100 (by decide) (by decide)]) (by rw [fo 100 (by decide) (by decide)]; omega)
        have lr := sch_lr (U := rsI RefN J) eg qz qy vw ev pn rm dr fI (fun o y a b e => fS o y (by omega) b) f263 hE zC (fun t t0 t1 => fS 201 t (by omega) (by decide)) (by rw [fo 100 (by decide) (by decide)]; omega) (fun t ρ => rowSeen_of (by rw [fo 100 (by decide) (by decide)]) (fun o x0 x1 => fo o (by omega) (by omega)))
        exact case_det (es := [(eIOO, 1), (eIAE, 2), (eISE, 3)]) (kk := 0) (nn := 0) h c5 hb eh (fun s x r => lw_check k1 k2 s x r) sp ⟨by decide, by decide, rfl, rfl⟩ (by decide) (by decide) (fun o ho => ⟨rfl, rfl, (fI o (by omega)).trans (dpI_o (Or.inl (by omega)) nq n20)⟩) sp2 (by rw [lr.2, hS0, up2_eq]) lr.1
    · have n2 : bI (0 ≤ p3 ∧ p3 ≤ 2) = 0 ∨ bI (-1000 ≤ p4 ∧ p4 ≤ 1000) = 0 := by
        by_cases y : 0 ≤ p3 ∧ p3 ≤ 2
        · exact Or.inr (bI0 (fun u => hw ⟨y, u⟩))
        · exact Or.inl (bI0 y)
      have cd2 : cd_Model_check (mS I) p1 p2 p3 p4 = 2 := (if_neg n1).trans (if_pos n2)
      exact case_ex (es := [(eIOO, 1), (eIAE, 2), (eISE, 3)]) h c5 hb eh (es_3 nIA nIS nAS) (fun _ s x r => lw_check k1 k2 s x r) (check_no2 b1.c s6 hcc hw) (by decide) (by decide) (Or.inl ⟨(eIAE, 2), _, List.mem_cons_of_mem _ (List.mem_cons_self ..), rfl, ref_1 (sp_Model_check (J := rsI RefN J) (I := mS I) (t := p1) (c := p2) (w := p3) (v := p4) hM mb) cd2 (by decide) (by decide) (by decide)⟩)
  · have cd1 : cd_Model_check (mS I) p1 p2 p3 p4 = 1 := if_pos (bI0 hc)
    refine case_ex (es := [(eIOO, 1), (eIAE, 2), (eISE, 3)]) h c5 hb eh (es_3 nIA nIS nAS) (fun _ s x r => lw_check k1 k2 s x r) (check_no1 b1.c s6 (fun y => hc ?_)) (by decide) (by decide) (Or.inl ⟨(eIOO, 1), _, List.mem_cons_self .., rfl, ref_1 (sp_Model_check (J := rsI RefN J) (I := mS I) (t := p1) (c := p2) (w := p3) (v := p4) hM mb) cd1 (by decide) (by decide) (by decide)⟩)
    have := rs p1 y.1.1 (by omega)
    omega
theorem case_veil (h : LI c L xs K P J I cs ns) (c5 : c < 512) : CaseC c L xs m_Law_veil [vR (some 1000), vI p1, vI p2, vI p3, vI p4, vI p5, vR (some 50)] m_Model_veil [vR (some 100), vI p1, vI p2, vI p3, vI p4, vI p5] K P J I cs ns := by
  obtain ⟨k1, k2⟩ := h.k1000
  have hM := h.1.1.1.rs
  obtain ⟨S0, hS0⟩ : ∃ S0, S0 = up2 (mS I) 100 93 0 := ⟨_, rfl⟩
  have hl : LR c K P I S0 (rsI RefN J) cs ns := by rw [hS0]; exact h.2.u93
  have sy : ∀ o y, o ≠ 100 ∨ y ≠ 93 → S0 o y = mS I o y := fun o y a => by rw [hS0]; exact sx o y a
  obtain ⟨n, N, g, lq, lv, mv, q, nq, lqq, tn, nv, l3, l4, w, M, eg, qz, dr, qy, vw, ev, pn, rm⟩ := hl
  obtain ⟨⟨b1, b2⟩, ⟨z1, z2, z3⟩, d, f, g1⟩ := id eg
  have mb : MB (mS I) := b2.mb.u93 (fun o y a => (sy o y a).symm)
  have hb := hb_i (z := p5) (hb_i (z := p4) (hb_i (z := p3) (hb_i (z := p2) (hb_i (z := p1) hb_1))))
  have eh := ez_3 (a := eIOO) (b := eIAE) (d := eISE) (x := 1) (y := 2) (z := 3) (by decide) (by decide) (by decide)
  obtain ⟨s0, s6, s00, sw⟩ := sch_of b2
  have c0 := sy 100 0 (Or.inr (by decide))
  have c8 := sy 100 8 (Or.inr (by decide))
  have c1 := sy 201 p2 (Or.inl (by decide))
  have hu := (under_eq b2).1
  rw [under_same sy] at hu
  have rs := b2.sch.1.2.1
  have r8 := b2.sch.1.2.2.2.2.1
  have s8 := b2.sch.2.2.2.2.2.2.2.1
  by_cases hc : (1 ≤ p1 ∧ p1 ≤ 3) ∧ 0 ≤ p2 ∧ p2 < mS I 100 0 ∧ 0 ≤ p3 ∧ p3 < mS I 201 p2
  · have n1 : ¬ (bI (1 ≤ p1 ∧ p1 ≤ 3) = 0 ∨ bI (0 ≤ p2 ∧ p2 < mS I 100 0 ∧ 0 ≤ p3 ∧ p3 < mS I 201 p2) = 0) := fun y => y.elim (fun u => by rw [bI1 hc.1] at u; exact absurd u (by decide)) (fun u => by rw [bI1 hc.2] at u; exact absurd u (by decide))
    have t6 : 0 ≤ p2 ∧ p2 < 6 := by omega
    have rw1 := rs p2 t6.1 t6.2
    have hcc : (1 ≤ p1 ∧ p1 < 4) ∧ (0 ≤ p2 ∧ p2 < I 1032 0) ∧ 0 ≤ p3 ∧ p3 < I 1034 p2 := by omega
    by_cases hw : (0 ≤ p4 ∧ p4 ≤ 2) ∧ -1000 ≤ p5 ∧ p5 ≤ 1000
    · have n2 : ¬ (bI (0 ≤ p4 ∧ p4 ≤ 2) = 0 ∨ bI (-1000 ≤ p5 ∧ p5 ≤ 1000) = 0) := fun y => y.elim (fun u => by rw [bI1 hw.1] at u; exact absurd u (by decide)) (fun u => by rw [bI1 hw.2] at u; exact absurd u (by decide))
      by_cases h0 : mS I 100 8 = 12 ∨ bI (mUnder (mS I)) ≠ 0
      · have cd3 : cd_Model_veil (mS I) p1 p2 p3 p4 p5 = 3 := (if_neg n1).trans ((if_neg n2).trans (if_pos h0))
        exact case_ex (es := [(eIOO, 1), (eIAE, 2), (eISE, 3)]) h c5 hb eh (es_3 nIA nIS nAS) (fun _ s x r => lw_veil k1 k2 s x r) (veil_no3 b1.c b1.e s6 hcc hw.1 hw.2 (fun y => h0.elim (fun u => by omega) (fun u => y.2 (hu.mp u)))) (by decide) (by decide) (Or.inl ⟨(eISE, 3), _, List.mem_cons_of_mem _ (List.mem_cons_of_mem _ (List.mem_singleton.mpr rfl)), rfl, ref_1 (sp_Model_veil (J := rsI RefN J) (I := mS I) (r := p1) (t := p2) (c := p3) (w := p4) (v := p5) hM mb) cd3 (by decide) (by decide) (by decide)⟩)
      · have cd0 : cd_Model_veil (mS I) p1 p2 p3 p4 p5 = 0 := (if_neg n1).trans ((if_neg n2).trans (if_neg h0))
        have nu : ¬ 0 < opN I n := fun y => h0 (Or.inr (hu.mpr y))
        have hno := (under_eq b2).2 nu
        have n20 := qy.1.1.2.1
        have dp0 : dpI I nq 1032 6 = I 1032 6 := by rw [dpI_o (Or.inl (by decide)) nq n20]
        have h12 : S0 100 8 < 12 := by
          rcases Classical.em (mS I 100 8 = 12) with y | y
          · exact absurd (Or.inl y) h0
          · omega
        obtain ⟨hE, hv⟩ := ER.veil (r := p1) (w := p4) (v := p5) b2 b1.lev b1.g10 hno n20 h12 (show 0 ≤ p2 ∧ p2 < S0 100 0 by omega) (show 0 ≤ p3 ∧ p3 < S0 201 p2 by omega)
        have sp := veil_run (J := J) b1.c b1.e qy.1.1 s6 hcc hw.1 hw.2 (by omega) (bI0 nu) (by rw [dp0]; omega)
        have sp2 : Sp m_Model_veil false (rmv 12 400) (ex (rsK RefN K) (rsP RefN P) (rsI RefN J) (f_Model_veil p1 p2 p3 p4 p5 S0).1 (.inl (some (vI (f_Model_veil p1 p2 p3 p4 p5 S0).2)))) (rsK RefN K) (rsP RefN P) (rsI RefN J) (mS I) [vR (some 100), vI p1, vI p2, vI p3, vI p4, vI p5] := by
          rw [hS0]
          exact ref_0 (sp_Model_veil (J := rsI RefN J) (I := mS I) (r := p1) (t := p2) (c := p3) (w := p4) (v := p5) hM mb) cd0 (by decide) (by decide)
        rw [← hv] at sp2
        have fS : ∀ o y, ¬ (209 ≤ o ∧ o ≤ 213 ∧ y = S0 100 8) → o ≠ 263 → ¬ (o = 100 ∧ y = 8) → (f_Model_veil p1 p2 p3 p4 p5 S0).1 o y = S0 o y := fun o y a b e => (filI_fr b).trans ((up2_x e).trans ((up2_x (by omega)).trans ((up2_x (by omega)).trans ((up2_x (by omega)).trans ((up2_x (by omega)).trans (up2_x (by omega)))))))
        have f8 : (f_Model_veil p1 p2 p3 p4 p5 S0).1 100 8 = S0 100 8 + 1 := by
          unfold f_Model_veil
          dsimp only
          rw [filI_fr (by decide), up2_eq]
        have f9 : (f_Model_veil p1 p2 p3 p4 p5 S0).1 209 (S0 100 8) = p1 := by
          unfold f_Model_veil
          dsimp only
          rw [filI_fr (by decide), up2_o _ _ _ _ (by decide), up2_o _ _ _ _ (by decide), up2_o _ _ _ _ (by decide), up2_o _ _ _ _ (by decide), up2_o _ _ _ _ (by decide), up2_eq]
        have f263 : ∀ y, 0 ≤ y → y < 20 → (f_Model_veil p1 p2 p3 p4 p5 S0).1 263 y = 0 := fun y y0 y1 => filI_in ⟨y0, y1⟩
        have fI : ∀ o, ¬ (1032 ≤ o ∧ o < 1064) → up2 (up2 (up2 (up2 (up2 (up2 (dpI I nq) 1040 (dpI I nq 1032 6 * 5) p1) 1040 (dpI I nq 1032 6 * 5 + 1) p2) 1040 (dpI I nq 1032 6 * 5 + 2) p3) 1040 (dpI I nq 1032 6 * 5 + 3) p4) 1040 (dpI I nq 1032 6 * 5 + 4) p5) 1032 6 (dpI I nq 1032 6 + 1) o = dpI I nq o := fun o ho => funext (fun y => by rw [up2_o _ _ _ _ (by omega), up2_o _ _ _ _ (by omega), up2_o _ _ _ _ (by omega), up2_o _ _ _ _ (by omega), up2_o _ _ _ _ (by omega), up2_o _ _ _ _ (by omega)])
        generalize up2 (up2 (up2 (up2 (up2 (up2 (dpI I nq) 1040 (dpI I nq 1032 6 * 5) p1) 1040 (dpI I nq 1032 6 * 5 + 1) p2) 1040 (dpI I nq 1032 6 * 5 + 2) p3) 1040 (dpI I nq 1032 6 * 5 + 3) p4) 1040 (dpI I nq 1032 6 * 5 + 4) p5) 1032 6 (dpI I nq 1032 6 + 1) = I1 at *
        generalize (f_Model_veil p1 p2 p3 p4 p5 S0).1 = S1 at *
        have zC : ZI (c + 1) (-1) S1 := z1.same (fun o ho => funext (fun y => fS o y (by omega) (by omega) (by omega))) (fun y _ => fS 100 y (by omega) (by decide) (by omega)) (by rw [fS 100 37 (by omega) (by decide) (by omega)]; omega)
        have lr := sch_lr (U := rsI RefN J) eg qz qy vw ev pn rm dr fI (fun o y a b e => fS o y (by omega) b (by omega)) f263 hE zC (fun t t0 t1 => fS 201 t (by omega) (by decide) (by omega)) (by rw [fS 100 0 (by omega) (by decide) (by omega)]; omega) (fun t ρ => by
          unfold rowSeen
          rw [f8]
          refine ⟨fun a j j0 j1 j2 j3 => ?_, fun a j j0 j1 j2 j3 => ?_⟩
          · have := a j j0 (by omega)
            rw [fS 209 j (by omega) (by decide) (by omega), fS 210 j (by omega) (by decide) (by omega), fS 211 j (by omega) (by decide) (by omega), fS 212 j (by omega) (by decide) (by omega), fS 213 j (by omega) (by decide) (by omega)] at this
            exact this j2 j3
          · by_cases e : j = S0 100 8
            · rw [e, f9] at j2; omega
            · rw [fS 209 j (by omega) (by decide) (by omega)] at j2
              rw [fS 210 j (by omega) (by decide) (by omega)] at j3
              rw [fS 211 j (by omega) (by decide) (by omega), fS 212 j (by omega) (by decide) (by omega), fS 213 j (by omega) (by decide) (by omega)]
              exact a j j0 (by omega) j2 j3)
        exact case_det (es := [(eIOO, 1), (eIAE, 2), (eISE, 3)]) (kk := 0) (nn := 0) h c5 hb eh (fun s x r => lw_veil k1 k2 s x r) sp ⟨by decide, by decide, rfl, rfl⟩ (by decide) (by decide) (fun o ho => ⟨rfl, rfl, (fI o (by omega)).trans (dpI_o (Or.inl (by omega)) nq n20)⟩) sp2 (by rw [lr.2, hS0, up2_eq]) lr.1
    · have n2 : bI (0 ≤ p4 ∧ p4 ≤ 2) = 0 ∨ bI (-1000 ≤ p5 ∧ p5 ≤ 1000) = 0 := by
        by_cases y : 0 ≤ p4 ∧ p4 ≤ 2
        · exact Or.inr (bI0 (fun u => hw ⟨y, u⟩))
        · exact Or.inl (bI0 y)
      have cd2 : cd_Model_veil (mS I) p1 p2 p3 p4 p5 = 2 := (if_neg n1).trans (if_pos n2)
      exact case_ex (es := [(eIOO, 1), (eIAE, 2), (eISE, 3)]) h c5 hb eh (es_3 nIA nIS nAS) (fun _ s x r => lw_veil k1 k2 s x r) (veil_no2 b1.c s6 hcc hw) (by decide) (by decide) (Or.inl ⟨(eIAE, 2), _, List.mem_cons_of_mem _ (List.mem_cons_self ..), rfl, ref_1 (sp_Model_veil (J := rsI RefN J) (I := mS I) (r := p1) (t := p2) (c := p3) (w := p4) (v := p5) hM mb) cd2 (by decide) (by decide) (by decide)⟩)
  · have cd1 : cd_Model_veil (mS I) p1 p2 p3 p4 p5 = 1 := if_pos (by
      by_cases y : 1 ≤ p1 ∧ p1 ≤ 3
      · exact Or.inr (bI0 (fun u => hc ⟨y, u⟩))
      · exact Or.inl (bI0 y))
    refine case_ex (es := [(eIOO, 1), (eIAE, 2), (eISE, 3)]) h c5 hb eh (es_3 nIA nIS nAS) (fun _ s x r => lw_veil k1 k2 s x r) (veil_no1 b1.c s6 (fun y => hc ?_)) (by decide) (by decide) (Or.inl ⟨(eIOO, 1), _, List.mem_cons_self .., rfl, ref_1 (sp_Model_veil (J := rsI RefN J) (I := mS I) (r := p1) (t := p2) (c := p3) (w := p4) (v := p5) hM mb) cd1 (by decide) (by decide) (by decide)⟩)
    have := rs p2 y.2.1.1 (by omega)
    omega
end
