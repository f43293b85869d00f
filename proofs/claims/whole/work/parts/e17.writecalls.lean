/-! insert, update, delete: the cases of the law -/
section
variable {K : KT} {P : PT} {J I : IT} {c cs ns : Nat} {L : Nat} {xs : Int → Int} {p1 p2 p3 p4 p5 : Int}
theorem sx {S : IT} (o : Nat) (y : Int) (a : o ≠ 100 ∨ y ≠ 93) : up2 S 100 93 0 o y = S o y := if_neg (fun z => by omega)
theorem QzR.q2 {n nq tn : Nat} {S : IT} {q : Int} (h : QzR c n nq tn S q) (c5 : c < 512) (h0 : 0 ≤ S 100 0) : q + 4 ≤ 2048 ∧ q ≤ 2044 := by
  unfold QzR at h
  split at h <;> omega
theorem case_delete (h : LI c L xs K P J I cs ns) (c5 : c < 512) : CaseC c L xs m_Law_delete [vR (some 1000), vI p1, vI p2, vI p3, vR (some 50)] m_Model_delete [vR (some 100), vI p1, vI p2, vI p3] K P J I cs ns := by
  obtain ⟨k1, k2⟩ := h.k1000
  have hM := h.1.1.1.rs
  obtain ⟨n, N, g, lq, lv, mv, q, nq, lqq, tn, nv, l3, l4, w, M, eg, qz, dr, qy, vw, ev, pn, rm⟩ := h.2.u93 (z := 0)
  obtain ⟨⟨b1, b2⟩, ⟨z1, z2, z3⟩, d, f, g1⟩ := id eg
  have c19 := b2.cnt.1
  obtain ⟨s0, s6, s00, sw⟩ := sch_of b2
  rw [sx 100 19 (Or.inr (by decide))] at c19
  rw [sx 100 0 (Or.inr (by decide))] at s0
  have mb : MB (mS I) := b2.mb.u93 (fun o y a => (sx o y a).symm)
  have hb := hb_i (z := p3) (hb_i (z := p2) (hb_i (z := p1) hb_1))
  have eh := ez_2 (a := eIOO) (b := eISE) (x := 1) (y := 2) (by decide) (by decide)
  by_cases hc : (0 ≤ p1 ∧ p1 < mS I 100 19) ∧ 0 ≤ p2 ∧ p2 < mS I 100 0
  · obtain ⟨i, hi⟩ : ∃ i : Nat, p1 = i := ⟨p1.toNat, by omega⟩
    subst hi
    have hn : i < n := by omega
    have t4 := (b2.tx i hn).1.2.2.2.1
    rw [sx 221 i (Or.inl (by decide))] at t4
    have n1 : ¬ (bI (0 ≤ (i : Int) ∧ (i : Int) < mS I 100 19) = 0 ∨ bI (0 ≤ p2 ∧ p2 < mS I 100 0) = 0) := fun z => z.elim (fun u => by rw [bI1 hc.1] at u; exact absurd u (by decide)) (fun u => by rw [bI1 hc.2] at u; exact absurd u (by decide))
    by_cases h0 : mS I 221 i = 0
    · have cd0 : cd_Model_delete (mS I) i p2 p3 = 0 := (if_neg n1).trans (if_neg (fun z => z h0))
      have o0 : up2 (mS I) 100 93 0 221 i = 0 := (sx 221 i (Or.inl (by decide))).trans h0
      have rd := b2.rd.1 i hn
      have qz' := qz.q2 c5 b2.mb.tab.1
      have hBS : ∀ o y, ¬ (227 ≤ o ∧ o ≤ 232) → ¬ (o = 100 ∧ y = 37) → mAct0 (up2 (up2 (mS I) 100 93 0) 229 i p3) i 2 p2 o y = up2 (mS I) 100 93 0 o y := fun o y a _ => by
        unfold mAct0
        rw [up2_o _ _ _ _ (by omega), up2_o _ _ _ _ (by omega), up2_o _ _ _ _ (by omega)]
      have e37 : mAct0 (up2 (up2 (mS I) 100 93 0) 229 i p3) i 2 p2 100 37 = up2 (mS I) 100 93 0 100 37 := by
        unfold mAct0
        rw [up2_o _ _ _ _ (by decide), up2_o _ _ _ _ (by decide), up2_o _ _ _ _ (by decide)]
      have e27 : mAct0 (up2 (up2 (mS I) 100 93 0) 229 i p3) i 2 p2 227 i = 2 := by
        unfold mAct0
        rw [up2_o _ _ _ _ (by decide), up2_eq]
      have zB := z1.plan (S' := mAct0 (up2 (up2 (mS I) 100 93 0) 229 i p3) i 2 p2) (by rw [b2.wrd.2]; exact hn) o0 (by omega) hBS (fun j hj => by
        unfold mAct0
        rw [up2_o _ _ _ _ (by decide), up2_k _ _ _ _ hj, up2_o _ _ _ _ (by decide), up2_k _ _ _ _ hj, up2_o _ _ _ _ (by decide), up2_o _ _ _ _ (by decide)]
        exact ⟨rfl, rfl⟩) (by rw [rsv_1 (by rw [e27]; decide), e37]; exact Nat.le_refl _)
      exact case_write (B := mAct0 (up2 (up2 (mS I) 100 93 0) 229 i p3) i 2 p2) (I1 := I) h c5 hb eh rfl (fun s x r => lw_delete k1 k2 s x r) eg qz qy vw ev pn rm hn o0 hBS (fun _ _ => rfl) (fun hX hd => delete_ex (c := 0) (v := 0) b1 b2 hn o0 (by rw [sx 100 0 (Or.inr (by decide))]; exact hc.2) qz'.1 (ZB.ok (by omega)) zB hd hX) (fun m' a b => ref_0 (sp_Model_delete (J := rsI RefN J) (I := mS I) (i := i) (t := p2) (key := p3) (n := m') hM mb (fun _ => ⟨a, b⟩)) cd0 (by decide) (by decide)) (fun I' T a1 a2 a3 a4 => dr.frm ⟨by rw [a1], a2⟩ ⟨a3.trans (funext (fun y => hBS 238 y (by omega) (by omega))), a4.trans e37⟩)
    · have cd2 : cd_Model_delete (mS I) i p2 p3 = 2 := (if_neg n1).trans (if_pos h0)
      exact case_ex (es := [(eIOO, 1), (eISE, 2)]) h c5 hb eh (es_2 nIS) (fun _ s x r => lw_delete k1 k2 s x r) (delete_no2 (y := p3) b1.c b1.e hn (by rw [s0]; exact hc.2) (by rw [t4]; exact h0)) (by decide) (by decide) (Or.inl ⟨(eISE, 2), _, List.mem_cons_of_mem _ (List.mem_singleton.mpr rfl), rfl, ref_1 (sp_Model_delete (J := rsI RefN J) (I := mS I) (i := i) (t := p2) (key := p3) (n := 0) hM mb (fun z => absurd (z.symm.trans cd2) (by decide))) cd2 (by decide) (by decide) (by decide)⟩)
  · have cd1 : cd_Model_delete (mS I) p1 p2 p3 = 1 := if_pos (by
      by_cases y : 0 ≤ p1 ∧ p1 < mS I 100 19
      · exact Or.inr (bI0 (fun z => hc ⟨y, z⟩))
      · exact Or.inl (bI0 y))
    exact case_ex (es := [(eIOO, 1), (eISE, 2)]) h c5 hb eh (es_2 nIS) (fun _ s x r => lw_delete k1 k2 s x r) (delete_no1 (y := p3) b1.c b1.e (by omega)) (by decide) (by decide) (Or.inl ⟨(eIOO, 1), _, List.mem_cons_self .., rfl, ref_1 (sp_Model_delete (J := rsI RefN J) (I := mS I) (i := p1) (t := p2) (key := p3) (n := 0) hM mb (fun z => absurd (z.symm.trans cd1) (by decide))) cd1 (by decide) (by decide) (by decide)⟩)
theorem case_update (h : LI c L xs K P J I cs ns) (c5 : c < 512) : CaseC c L xs m_Law_update [vR (some 1000), vI p1, vI p2, vI p3, vI p4, vI p5, vR (some 50)] m_Model_update [vR (some 100), vI p1, vI p2, vI p3, vI p4, vI p5] K P J I cs ns := by
  obtain ⟨k1, k2⟩ := h.k1000
  have hM := h.1.1.1.rs
  obtain ⟨n, N, g, lq, lv, mv, q, nq, lqq, tn, nv, l3, l4, w, M, eg, qz, dr, qy, vw, ev, pn, rm⟩ := h.2.u93 (z := 0)
  obtain ⟨⟨b1, b2⟩, ⟨z1, z2, z3⟩, d, f, g1⟩ := id eg
  have c19 := b2.cnt.1
  obtain ⟨s0, s6, s00, sw⟩ := sch_of b2
  rw [sx 100 19 (Or.inr (by decide))] at c19
  rw [sx 100 0 (Or.inr (by decide))] at s0
  have sw1 : ∀ t, 0 ≤ t → t < 6 → I 1034 t = mS I 201 t ∧ I 1034 t ≤ 4 := fun t t0 t1 => by
    have := sw t t0 t1
    rw [sx 201 t (Or.inl (by decide))] at this
    exact this
  have mb : MB (mS I) := b2.mb.u93 (fun o y a => (sx o y a).symm)
  have hb := hb_i (z := p5) (hb_i (z := p4) (hb_i (z := p3) (hb_i (z := p2) (hb_i (z := p1) hb_1))))
  have eh := ez_3 (a := eIOO) (b := eIAE) (d := eISE) (x := 1) (y := 2) (z := 3) (by decide) (by decide) (by decide)
  by_cases hc : (0 ≤ p1 ∧ p1 < mS I 100 19) ∧ (0 ≤ p2 ∧ p2 < mS I 100 0 ∧ 0 ≤ p4 ∧ p4 < mS I 201 p2) ∧ 0 < p4
  · obtain ⟨i, hi⟩ : ∃ i : Nat, p1 = i := ⟨p1.toNat, by omega⟩
    subst hi
    have hn : i < n := by omega
    have t4 := (b2.tx i hn).1.2.2.2.1
    rw [sx 221 i (Or.inl (by decide))] at t4
    have w1 := sw1 p2 (by omega) (by omega)
    have n1 : ¬ (bI (0 ≤ (i : Int) ∧ (i : Int) < mS I 100 19) = 0 ∨ bI (0 ≤ p2 ∧ p2 < mS I 100 0 ∧ 0 ≤ p4 ∧ p4 < mS I 201 p2) = 0 ∨ p4 ≤ 0) := fun z => z.elim (fun u => by rw [bI1 hc.1] at u; exact absurd u (by decide)) (fun z => z.elim (fun u => by rw [bI1 hc.2.1] at u; exact absurd u (by decide)) (fun u => by omega))
    have hcc : (0 ≤ p2 ∧ p2 < I 1032 0) ∧ 0 ≤ p4 ∧ p4 < I 1034 p2 := by omega
    by_cases hv : okV p5
    · have n2 : ¬ ¬ (p5 = -2147483648 ∨ bI (-1000 ≤ p5 ∧ p5 ≤ 1000) ≠ 0) := fun z => z (okB.mpr hv)
      by_cases h0 : mS I 221 i = 0
      · have cd0 : cd_Model_update (mS I) i p2 p3 p4 p5 = 0 := (if_neg n1).trans ((if_neg n2).trans (if_neg (fun z => z h0)))
        have o0 : up2 (mS I) 100 93 0 221 i = 0 := (sx 221 i (Or.inl (by decide))).trans h0
        have rd := b2.rd.1 i hn
        have qz' := qz.q2 c5 b2.mb.tab.1
        have hBS : ∀ o y, ¬ (227 ≤ o ∧ o ≤ 232) → ¬ (o = 100 ∧ y = 37) → mAct0 (up2 (up2 (up2 (up2 (mS I) 100 93 0) 229 i p3) 230 i p4) 231 i p5) i 1 p2 o y = up2 (mS I) 100 93 0 o y := fun o y a _ => by
          unfold mAct0
          rw [up2_o _ _ _ _ (by omega), up2_o _ _ _ _ (by omega), up2_o _ _ _ _ (by omega), up2_o _ _ _ _ (by omega), up2_o _ _ _ _ (by omega)]
        have e37 : mAct0 (up2 (up2 (up2 (up2 (mS I) 100 93 0) 229 i p3) 230 i p4) 231 i p5) i 1 p2 100 37 = up2 (mS I) 100 93 0 100 37 := by
          unfold mAct0
          rw [up2_o _ _ _ _ (by decide), up2_o _ _ _ _ (by decide), up2_o _ _ _ _ (by decide), up2_o _ _ _ _ (by decide), up2_o _ _ _ _ (by decide)]
        have e27 : mAct0 (up2 (up2 (up2 (up2 (mS I) 100 93 0) 229 i p3) 230 i p4) 231 i p5) i 1 p2 227 i = 1 := by
          unfold mAct0
          rw [up2_o _ _ _ _ (by decide), up2_eq]
        have zB := z1.plan (S' := mAct0 (up2 (up2 (up2 (up2 (mS I) 100 93 0) 229 i p3) 230 i p4) 231 i p5) i 1 p2) (by rw [b2.wrd.2]; exact hn) o0 (by omega) hBS (fun j hj => by
          unfold mAct0
          rw [up2_o _ _ _ _ (by decide), up2_k _ _ _ _ hj, up2_o _ _ _ _ (by decide), up2_o _ _ _ _ (by decide), up2_o _ _ _ _ (by decide), up2_k _ _ _ _ hj, up2_o _ _ _ _ (by decide), up2_o _ _ _ _ (by decide), up2_o _ _ _ _ (by decide), up2_o _ _ _ _ (by decide)]
          exact ⟨rfl, rfl⟩) (by rw [rsv_1 (by rw [e27]; decide), e37]; exact Nat.le_refl _)
        exact case_write (B := mAct0 (up2 (up2 (up2 (up2 (mS I) 100 93 0) 229 i p3) 230 i p4) 231 i p5) i 1 p2) (I1 := I) h c5 hb eh rfl (fun s x r => lw_update k1 k2 s x r) eg qz qy vw ev pn rm hn o0 hBS (fun _ _ => rfl) (fun hX hd => update_run b1 b2 hn o0 (by rw [sx 100 0 (Or.inr (by decide))]; omega) (by rw [sx 201 p2 (Or.inl (by decide))]; omega) hv qz'.1 (ZB.ok (by omega)) zB hd hX) (fun m' a b => ref_0 (sp_Model_update (J := rsI RefN J) (I := mS I) (i := i) (t := p2) (key := p3) (c := p4) (v := p5) (n := m') hM mb (fun _ => ⟨a, b⟩)) cd0 (by decide) (by decide)) (fun I' T a1 a2 a3 a4 => dr.frm ⟨by rw [a1], a2⟩ ⟨a3.trans (funext (fun y => hBS 238 y (by omega) (by omega))), a4.trans e37⟩)
      · have cd3 : cd_Model_update (mS I) i p2 p3 p4 p5 = 3 := (if_neg n1).trans ((if_neg n2).trans (if_pos h0))
        exact case_ex (es := [(eIOO, 1), (eIAE, 2), (eISE, 3)]) h c5 hb eh (es_3 nIA nIS nAS) (fun _ s x r => lw_update k1 k2 s x r) (update_no3 (y := p3) b1.c b1.e s6 hn hcc (by omega) hv (by rw [t4]; exact h0)) (by decide) (by decide) (Or.inl ⟨(eISE, 3), _, List.mem_cons_of_mem _ (List.mem_cons_of_mem _ (List.mem_singleton.mpr rfl)), rfl, ref_1 (sp_Model_update (J := rsI RefN J) (I := mS I) (i := i) (t := p2) (key := p3) (c := p4) (v := p5) (n := 0) hM mb (fun z => absurd (z.symm.trans cd3) (by decide))) cd3 (by decide) (by decide) (by decide)⟩)
    · have cd2 : cd_Model_update (mS I) i p2 p3 p4 p5 = 2 := (if_neg n1).trans (if_pos (fun z => hv (okB.mp z)))
      exact case_ex (es := [(eIOO, 1), (eIAE, 2), (eISE, 3)]) h c5 hb eh (es_3 nIA nIS nAS) (fun _ s x r => lw_update k1 k2 s x r) (update_no2 (y := p3) b1.c b1.e s6 hn hcc (by omega) hv) (by decide) (by decide) (Or.inl ⟨(eIAE, 2), _, List.mem_cons_of_mem _ (List.mem_cons_self ..), rfl, ref_1 (sp_Model_update (J := rsI RefN J) (I := mS I) (i := i) (t := p2) (key := p3) (c := p4) (v := p5) (n := 0) hM mb (fun z => absurd (z.symm.trans cd2) (by decide))) cd2 (by decide) (by decide) (by decide)⟩)
  · have cd1 : cd_Model_update (mS I) p1 p2 p3 p4 p5 = 1 := if_pos (by
      by_cases y : 0 ≤ p1 ∧ p1 < mS I 100 19
      · by_cases u : 0 ≤ p2 ∧ p2 < mS I 100 0 ∧ 0 ≤ p4 ∧ p4 < mS I 201 p2
        · exact Or.inr (Or.inr (by
            by_cases v : 0 < p4
            · exact absurd ⟨y, u, v⟩ hc
            · omega))
        · exact Or.inr (Or.inl (bI0 u))
      · exact Or.inl (bI0 y))
    refine case_ex (es := [(eIOO, 1), (eIAE, 2), (eISE, 3)]) h c5 hb eh (es_3 nIA nIS nAS) (fun _ s x r => lw_update k1 k2 s x r) (update_no1 (y := p3) (v := p5) b1.c b1.e s6 (fun z => ?_)) (by decide) (by decide) (Or.inl ⟨(eIOO, 1), _, List.mem_cons_self .., rfl, ref_1 (sp_Model_update (J := rsI RefN J) (I := mS I) (i := p1) (t := p2) (key := p3) (c := p4) (v := p5) (n := 0) hM mb (fun z => absurd (z.symm.trans cd1) (by decide))) cd1 (by decide) (by decide) (by decide)⟩)
    have w1 := sw1 p2 z.2.1.1.1 (by omega)
    omega
theorem case_insert (h : LI c L xs K P J I cs ns) (c5 : c < 512) : CaseC c L xs m_Law_insert [vR (some 1000), vI p1, vI p2, vR (some 50)] m_Model_insert [vR (some 100), vI p1, vI p2] K P J I cs ns := by
  obtain ⟨k1, k2⟩ := h.k1000
  have hM := h.1.1.1.rs
  obtain ⟨n, N, g, lq, lv, mv, q, nq, lqq, tn, nv, l3, l4, w, M, eg, qz, dr, qy, vw, ev, pn, rm⟩ := h.2.u93 (z := 0)
  obtain ⟨⟨b1, b2⟩, ⟨z1, z2, z3⟩, d, f, g1⟩ := id eg
  have c19 := b2.cnt.1
  obtain ⟨s0, s6, s00, sw⟩ := sch_of b2
  rw [sx 100 19 (Or.inr (by decide))] at c19
  rw [sx 100 0 (Or.inr (by decide))] at s0
  have sw1 : ∀ t, 0 ≤ t → t < 6 → I 1034 t = mS I 201 t ∧ I 1034 t ≤ 4 := fun t t0 t1 => by
    have := sw t t0 t1
    rw [sx 201 t (Or.inl (by decide))] at this
    exact this
  have mb : MB (mS I) := b2.mb.u93 (fun o y a => (sx o y a).symm)
  have d37 := dr.2
  have d9 := dr.1.1
  rw [sx 100 37 (Or.inr (by decide))] at d37 d9
  have hb := hb_i (z := p2) (hb_i (z := p1) hb_1)
  have eh := ez_2 (a := eIOO) (b := eISE) (x := 1) (y := 2) (by decide) (by decide)
  by_cases hc : (0 ≤ p1 ∧ p1 < mS I 100 19) ∧ 0 ≤ p2 ∧ p2 < mS I 100 0
  · obtain ⟨i, hi⟩ : ∃ i : Nat, p1 = i := ⟨p1.toNat, by omega⟩
    subst hi
    have hn : i < n := by omega
    have t4 := (b2.tx i hn).1.2.2.2.1
    rw [sx 221 i (Or.inl (by decide))] at t4
    have w1 := sw1 p2 (by omega) (by omega)
    have n1 : ¬ (bI (0 ≤ (i : Int) ∧ (i : Int) < mS I 100 19) = 0 ∨ bI (0 ≤ p2 ∧ p2 < mS I 100 0) = 0) := fun z => z.elim (fun u => by rw [bI1 hc.1] at u; exact absurd u (by decide)) (fun u => by rw [bI1 hc.2] at u; exact absurd u (by decide))
    have htt : 0 ≤ p2 ∧ p2 < I 1032 0 := by omega
    by_cases h0 : mS I 221 i = 0
    · by_cases h7 : mS I 100 37 = mS I 201 p2
      · have cd0 : cd_Model_insert (mS I) i p2 = 0 := (if_neg n1).trans (if_neg (fun z => z.elim (fun u => u h0) (fun u => u h7)))
        have o0 : up2 (mS I) 100 93 0 221 i = 0 := (sx 221 i (Or.inl (by decide))).trans h0
        have rd := b2.rd.1 i hn
        have qz' := qz.q2 c5 b2.mb.tab.1
        have hBS : ∀ o y, ¬ (227 ≤ o ∧ o ≤ 232) → ¬ (o = 100 ∧ y = 37) → mAct0 (mInX (up2 (mS I) 100 93 0) i) i 0 p2 o y = up2 (mS I) 100 93 0 o y := fun o y a b => by
          unfold mAct0 mInX
          rw [up2_o _ _ _ _ (by omega), up2_o _ _ _ _ (by omega)]
          exact (if_neg b).trans (mDr_fr (by omega))
        have e37 : mAct0 (mInX (up2 (mS I) 100 93 0) i) i 0 p2 100 37 = 0 := by
          unfold mAct0 mInX
          rw [up2_o _ _ _ _ (by decide), up2_o _ _ _ _ (by decide), up2_eq]
        have e27 : mAct0 (mInX (up2 (mS I) 100 93 0) i) i 0 p2 227 i = 0 := by
          unfold mAct0
          rw [up2_o _ _ _ _ (by decide), up2_eq]
        have e28 : mAct0 (mInX (up2 (mS I) 100 93 0) i) i 0 p2 228 i = p2 := by
          unfold mAct0
          rw [up2_eq]
        have zB := z1.plan (S' := mAct0 (mInX (up2 (mS I) 100 93 0) i) i 0 p2) (by rw [b2.wrd.2]; exact hn) o0 (by omega) hBS (fun j hj => by
          unfold mAct0 mInX
          exact ⟨by rw [up2_o _ _ _ _ (by decide), up2_k _ _ _ _ hj, up2_o _ _ _ _ (by decide), mDr_fr (by decide)], by rw [up2_k _ _ _ _ hj, up2_o _ _ _ _ (by decide), up2_o _ _ _ _ (by decide), mDr_fr (by decide)]⟩) (by
          have r : rsv (mAct0 (mInX (up2 (mS I) 100 93 0) i) i 0 p2) i = (mS I 201 p2).toNat + 1 := by
            unfold rsv
            rw [if_pos e27, e28, hBS 201 p2 (by omega) (by omega), sx 201 p2 (Or.inl (by decide))]
          rw [r, e37, sx 100 37 (Or.inr (by decide)), h7]
          omega)
        exact case_write (B := mAct0 (mInX (up2 (mS I) 100 93 0) i) i 0 p2) (I1 := up2 I 1000 9 0) h c5 hb eh rfl (fun s x r => lw_insert k1 k2 s x r) eg qz qy vw ev pn rm hn o0 hBS (fun o ho => funext (fun y => up2_o _ _ _ _ ho)) (fun hX hd => insert_run b1 b2 hn o0 (by rw [sx 100 0 (Or.inr (by decide))]; exact hc.2) dr.1 (by rw [sx 100 37 (Or.inr (by decide)), sx 201 p2 (Or.inl (by decide))]; exact h7) qz'.1 (ZB.ok (by omega)) zB hd hX) (fun m' a b => ref_0 (sp_Model_insert (J := rsI RefN J) (I := mS I) (i := i) (t := p2) (n := m') hM mb d37 (fun _ => ⟨a, b⟩)) cd0 (by decide) (by decide)) (fun I' T a1 a2 a3 a4 => by
          have t0 : T 100 37 = 0 := a4.trans e37
          refine ⟨⟨?_, fun y y0 y1 => ?_⟩, ?_, ?_⟩
          · rw [a1, up2_eq, t0]
          · rw [t0] at y1; omega
          · rw [t0]; decide
          · rw [t0]; decide)
      · have cd2 : cd_Model_insert (mS I) i p2 = 2 := (if_neg n1).trans (if_pos (Or.inr h7))
        exact case_ex (es := [(eIOO, 1), (eISE, 2)]) h c5 hb eh (es_2 nIS) (fun _ s x r => lw_insert k1 k2 s x r) (insert_no3 b1.c b1.e hn htt s6 (by rw [t4]; exact h0) (by rw [d9, w1.1]; exact h7)) (by decide) (by decide) (Or.inl ⟨(eISE, 2), _, List.mem_cons_of_mem _ (List.mem_singleton.mpr rfl), rfl, ref_1 (sp_Model_insert (J := rsI RefN J) (I := mS I) (i := i) (t := p2) (n := 0) hM mb d37 (fun z => absurd (z.symm.trans cd2) (by decide))) cd2 (by decide) (by decide) (by decide)⟩)
    · have cd2 : cd_Model_insert (mS I) i p2 = 2 := (if_neg n1).trans (if_pos (Or.inl h0))
      exact case_ex (es := [(eIOO, 1), (eISE, 2)]) h c5 hb eh (es_2 nIS) (fun _ s x r => lw_insert k1 k2 s x r) (insert_no2 b1.c b1.e hn htt (by rw [t4]; exact h0)) (by decide) (by decide) (Or.inl ⟨(eISE, 2), _, List.mem_cons_of_mem _ (List.mem_singleton.mpr rfl), rfl, ref_1 (sp_Model_insert (J := rsI RefN J) (I := mS I) (i := i) (t := p2) (n := 0) hM mb d37 (fun z => absurd (z.symm.trans cd2) (by decide))) cd2 (by decide) (by decide) (by decide)⟩)
  · have cd1 : cd_Model_insert (mS I) p1 p2 = 1 := if_pos (by
      by_cases y : 0 ≤ p1 ∧ p1 < mS I 100 19
      · exact Or.inr (bI0 (fun z => hc ⟨y, z⟩))
      · exact Or.inl (bI0 y))
    exact case_ex (es := [(eIOO, 1), (eISE, 2)]) h c5 hb eh (es_2 nIS) (fun _ s x r => lw_insert k1 k2 s x r) (insert_no1 b1.c b1.e (by omega)) (by decide) (by decide) (Or.inl ⟨(eIOO, 1), _, List.mem_cons_self .., rfl, ref_1 (sp_Model_insert (J := rsI RefN J) (I := mS I) (i := p1) (t := p2) (n := 0) hM mb d37 (fun z => absurd (z.symm.trans cd1) (by decide))) cd1 (by decide) (by decide) (by decide)⟩)
end
