/-! calls without a wrapper: records, flushed, planned, scrap -/
section
variable {K K' : KT} {P P' : PT} {J J' I I' I1 S0 S1 S S' T U : IT} {c cs ns n N N' g g' lq lq' nq lqq tn tn' nv l l3 l4 w i k z x : Nat} {lv mv lv' mv' : Nat → Nat} {q q' : Int} {M : List (List Int)} {L : Nat} {xs : Int → Int} {M2 W : MD} {as bs : List AV}
/-- behind the class's call, which told b: the reference tells the same -/
def AftD (M2 : MD) (bs : List AV) (b : Int) (K : KT) (P : PT) (J I : IT) (Nx : KT → PT → IT → IT → Prop) : Prop := ∃ Q : PQ, Sp M2 false (rmv 12 400) Q K P J I bs ∧ ∀ r K' P' J' I', Q r K' P' J' I' → r = .inl (some (vI b)) ∧ K' 100 = some (11, 0) ∧ K' 50 = some (102, 1) ∧ I' 100 93 = 0 ∧ Nx K' P' J' I'
def CaseD (c L : Nat) (xs : Int → Int) (W : MD) (as : List AV) (M2 : MD) (bs : List AV) (K : KT) (P : PT) (J I : IT) (cs ns : Nat) : Prop := (cs ≤ 603072 ∧ ns ≤ 7207018) ∧ ∃ Q : PE, SpE W false ({ frames := 15, cells := 603072 - cs, slots := 7207018 - ns, locals := 660 } : Room) Q K P J I as ∧ ∀ r K' P' J' I' k n, Q (.inl r) K' P' J' I' k n → WF K' P' J' I' → ∃ b, r = some (vI b) ∧ LwK K' P' I' L xs ∧ AftD M2 bs b K' P' J' I' (fun K2 P2 J2 I2 => LI (c + 1) L xs K2 P2 J2 I2 (cs + k) (ns + n))
theorem aft_d {S1 T1 : IT} {b : Int} {k n : Nat} (hL : LwK K P I L xs) (hb : ∀ v ∈ bs, ∀ q, v = vR (some q) → RefN q) (fr : ∀ o, o < 1000 → K' o = K o ∧ P' o = P o ∧ I' o = I o) (sp : Sp M2 false (rmv 12 400) (ex (rsK RefN K) (rsP RefN P) T1 S1 (.inl (some (vI b)))) (rsK RefN K) (rsP RefN P) (rsI RefN J) (mS I) bs) (h93 : S1 100 93 = 0) (lr : LR (c + 1) K' P' I' S1 T1 (cs + k) (ns + n)) (hwf : WF K' P' J I') : LwK K' P' I' L xs ∧ AftD M2 bs b K' P' J I' (fun K2 P2 J2 I2 => LI (c + 1) L xs K2 P2 J2 I2 (cs + k) (ns + n)) := by
  have hL' : LwK K' P' I' L xs := hL.frm (fun o ho => ⟨(fr o ho).1, (fr o ho).2.1⟩) (fr 49 (by decide)).2.2
  have lt : ∀ o, RefN o → o < 1000 := fun o ho => by unfold RefN at ho; omega
  have eK : rsK RefN K' = rsK RefN K := funext (fun o => by
    by_cases z : RefN o
    · rw [show rsK RefN K' o = K' o from rsF_y z, show rsK RefN K o = K o from rsF_y z]; exact (fr o (lt o z)).1
    · rw [show rsK RefN K' o = none from rsF_n z, show rsK RefN K o = none from rsF_n z])
  have eP : rsP RefN P' = rsP RefN P := funext (fun o => by
    by_cases z : RefN o
    · rw [show rsP RefN P' o = P' o from rsF_y z, show rsP RefN P o = P o from rsF_y z]; exact (fr o (lt o z)).2.1
    · rw [show rsP RefN P' o = (fun _ => none) from rsF_n z, show rsP RefN P o = (fun _ => none) from rsF_n z])
  have eI : mS I' = mS I := funext (fun o => by
    by_cases z : RefN o
    · rw [mS_y z, mS_y z]; exact (fr o (lt o z)).2.2
    · rw [mS_n z, mS_n z])
  rw [← eK, ← eP, ← eI] at sp
  refine ⟨hL', _, Sp.refc hwf hL'.1.2 hb (fun r K1 P1 J1 I1 q => ?_) sp, fun r K2 P2 J2 I2 q => ?_⟩
  · exact ⟨q.2.1, q.2.2.1⟩
  · obtain ⟨J1, I1, q1, e1, e2, e3, e4, e5⟩ := q
    subst e1
    subst e2
    obtain ⟨r1, -, -, r4, r5⟩ := q1
    subst r4
    subst r5
    have n49 : ¬ RefN 49 := by unfold RefN; omega
    refine ⟨r1, hL'.1.1.k rfl, hL'.2.2.1, ?_, hL'.frm (fun _ _ => ⟨rfl, rfl⟩) (e3 49 n49).2, ?_⟩
    · have : mS I2 100 = I2 100 := mS_y (Or.inr (Or.inl rfl))
      rw [← this, e5]; exact h93
    · rw [e4, e5]
      exact lr.frI (fun o ho => (e3 o (by unfold RefN; omega)).2)
theorem case_d {K1 : KT} {P1 : PT} {T1 : IT} {kk nn : Nat} {v : Int} (h : LI c L xs K P J I cs ns) (c5 : c < 512) (hb : ∀ v ∈ bs, ∀ q, v = vR (some q) → RefN q)
    {R0 : Room} (sp : Sp W false R0 (ex K1 P1 J I1 (.inl (some (vI v)))) K P J I as) (hR : R0.frames ≤ 15 ∧ R0.locals ≤ 660 ∧ R0.cells = kk ∧ R0.slots = nn) (hk : kk ≤ 100) (hn : nn ≤ 900000) (fr : ∀ o, o < 1000 → K1 o = K o ∧ P1 o = P o ∧ I1 o = I o)
    (ref : Sp M2 false (rmv 12 400) (ex (rsK RefN K) (rsP RefN P) T1 S1 (.inl (some (vI v)))) (rsK RefN K) (rsP RefN P) (rsI RefN J) (mS I) bs) (h93 : S1 100 93 = 0) (lr : LR (c + 1) K1 P1 I1 S1 T1 (cs + kk) (ns + nn)) : CaseD c L xs W as M2 bs K P J I cs ns := by
  have rm := h.2.room (by omega)
  obtain ⟨r1, r2, r3, r4⟩ := hR
  have spE := sp.toE.room (R' := ({ frames := 15, cells := 603072 - cs, slots := 7207018 - ns, locals := 660 } : Room)) r1 r2 (by show R0.cells ≤ 603072 - cs; omega) (by show R0.slots ≤ 7207018 - ns; omega)
  refine ⟨by omega, _, spE, fun r K' P' J' I' k n hq hwf => ?_⟩
  obtain ⟨⟨e1, e2, e3, e4, e5⟩, ek, en⟩ := hq
  have ek2 : k = kk := ek.trans r3
  have en2 : n = nn := en.trans r4
  subst e2; subst e3; subst e4; subst e5; subst ek2; subst en2
  injection e1 with e1
  exact ⟨v, e1, aft_d h.1 hb fr ref h93 lr hwf⟩
/-- a call that tells a number, and changes nothing -/
theorem case_dt {v : Int} {f l : Nat} (h : LI c L xs K P J I cs ns) (c5 : c < 512) (hb : ∀ v ∈ bs, ∀ q, v = vR (some q) → RefN q) (sp : Sp W false (rmv 0 0) (ex K P J I (.inl (some (vI v)))) K P J I as) (ref : Sp M2 false (rmv f l) (ex (rsK RefN K) (rsP RefN P) (rsI RefN J) (up2 (mS I) 100 93 0) (.inl (some (vI v)))) (rsK RefN K) (rsP RefN P) (rsI RefN J) (mS I) bs) (hf : f ≤ 12) (hl : l ≤ 400) : CaseD c L xs W as M2 bs K P J I cs ns :=
  case_d (kk := 0) (nn := 0) h c5 hb sp ⟨by decide, by decide, rfl, rfl⟩ (by decide) (by decide) (fun _ _ => ⟨rfl, rfl, rfl⟩) (ref.room hf hl (Nat.le_refl _) (Nat.le_refl _)) (up2_eq _ _ _ _) (h.2.tell c5 (by decide) (by decide))
theorem case_records (h : LI c L xs K P J I cs ns) (c5 : c < 512) : CaseD c L xs m_F_records [vR (some 1000)] m_Model_records [vR (some 100)] K P J I cs ns := by
  have hM := h.1.1.1.rs
  obtain ⟨n, N, g, lq, lv, mv, q, nq, lqq, tn, nv, l3, l4, w, M, eg, qz, dr, qy, vw, ev, pn, rm⟩ := id h.2
  have e : I 1192 0 = mS I 100 44 := eg.1.2.lg.1.1.trans eg.1.2.cnt.2.1.symm
  have sp := sp_F_records (J := J) (I := I) eg.1.1.c
  rw [e] at sp
  exact case_dt h c5 hb_1 sp (sp_Model_records hM) (by decide) (by decide)
theorem case_flushed (h : LI c L xs K P J I cs ns) (c5 : c < 512) : CaseD c L xs m_F_flushed [vR (some 1000)] m_Model_flushed [vR (some 100)] K P J I cs ns := by
  have hM := h.1.1.1.rs
  obtain ⟨n, N, g, lq, lv, mv, q, nq, lqq, tn, nv, l3, l4, w, M, eg, qz, dr, qy, vw, ev, pn, rm⟩ := id h.2
  have e : I 1192 1 = mS I 100 45 := eg.1.2.lg.1.2
  have sp := sp_F_flushed (J := J) (I := I) eg.1.1.c
  rw [e] at sp
  exact case_dt h c5 hb_1 sp (sp_Model_flushed hM) (by decide) (by decide)
theorem case_planned (h : LI c L xs K P J I cs ns) (c5 : c < 512) : CaseD c L xs m_F_planned [vR (some 1000)] m_Model_planned [vR (some 100)] K P J I cs ns := by
  have hM := h.1.1.1.rs
  obtain ⟨n, N, g, lq, lv, mv, q, nq, lqq, tn, nv, l3, l4, w, M, eg, qz, dr, qy, vw, ev, pn, rm⟩ := id h.2
  have e : I 1384 13 = mS I 100 67 := pn.2.1.2
  have sp := sp_F_planned (J := J) (I := I) eg.1.1.c
  rw [e] at sp
  exact case_dt h c5 hb_1 sp (sp_Model_planned hM) (by decide) (by decide)
theorem case_scrap (h : LI c L xs K P J I cs ns) (c5 : c < 512) : CaseD c L xs m_F_scrap [vR (some 1000)] m_Model_scrap [vR (some 100)] K P J I cs ns := by
  have hM := h.1.1.1.rs
  obtain ⟨S0, hS0⟩ : ∃ S0, S0 = up2 (mS I) 100 93 0 := ⟨_, rfl⟩
  have hl : LR c K P I S0 (rsI RefN J) cs ns := by rw [hS0]; exact h.2.u93
  have sy : ∀ o y, o ≠ 100 ∨ y ≠ 93 → S0 o y = mS I o y := fun o y a => by rw [hS0]; exact sx o y a
  obtain ⟨n, N, g, lq, lv, mv, q, nq, lqq, tn, nv, l3, l4, w, M, eg, qz, dr, qy, vw, ev, pn, rm⟩ := hl
  obtain ⟨-, qs, ⟨hp, hQ, tr⟩, -, qb, q6⟩ := id qy
  have sp := sp_F_scrap (J := J) (I := I) eg.1.1.c hp hQ
  have e7 : I (qX nq) 7 = mS I 100 51 := tr.n52.2.2.2.trans (sy 100 51 (Or.inr (by decide)))
  rw [e7] at sp
  have sp2 := (sp_Model_scrap (J := rsI RefN J) (I := mS I) hM).room (R' := rmv 12 400) (by decide) (by decide) (Nat.le_refl _) (Nat.le_refl _)
  rw [← hS0] at sp2
  have hI : ∀ o, o < qX nq ∨ qX nq + 10 ≤ o → up2 (up2 (up2 I (qX nq) 0 0) (qX nq) 1 0) (qX nq) 7 0 o = I o := fun o ho => funext (fun y => by rw [up2_o _ _ _ _ (by omega), up2_o _ _ _ _ (by omega), up2_o _ _ _ _ (by omega)])
  have t1 : TrR (up2 (up2 (up2 I (qX nq) 0 0) (qX nq) 1 0) (qX nq) 7 0) (mClears S0) (qX nq) 0 := tr.scrap ⟨by rw [up2_k _ _ _ _ (by decide), up2_k _ _ _ _ (by decide), up2_eq], by rw [up2_k _ _ _ _ (by decide), up2_eq], up2_eq _ _ _ _⟩ (funext (fun y => by rw [up2_o _ _ _ _ (by omega), up2_o _ _ _ _ (by omega), up2_o _ _ _ _ (by omega)]))
  have lr := tree_lr (x := 0) (U := rsI RefN J) t1 eg qz qy vw ev pn rm dr (by decide) hI (fun o y d1 d2 d3 d4 => (up2_x (by omega)).trans ((up2_x (by omega)).trans (up2_x (by omega)))) (by rw [up2_k _ _ _ _ (by decide), up2_k _ _ _ _ (by decide), up2_k _ _ _ _ (by decide)]) (by
    have e : mClears S0 260 ((0 : Nat) : Int) = S0 260 ((0 : Nat) : Int) := (up2_x (by omega)).trans ((up2_x (by omega)).trans (up2_x (by omega)))
    rw [e]; exact q6 _)
  exact case_d (kk := 0) (nn := 0) h c5 hb_1 sp ⟨by decide, by decide, rfl, rfl⟩ (by decide) (by decide) (fun o ho => ⟨rfl, rfl, hI o (Or.inl (by unfold qX; omega))⟩) sp2 (by rw [lr.2, hS0, up2_eq]) lr.1
end
