/-! refer: the case of the law -/
section
variable {K K' : KT} {P P' : PT} {J J' I I' I1 S0 S1 S T U : IT} {c cs ns n N N' g g' lq lq' nq lqq tn nv l3 l4 w i k z x : Nat} {lv mv lv' mv' : Nat → Nat} {q q' : Int} {M : List (List Int)} {L : Nat} {xs : Int → Int} {p1 p2 p3 p4 p5 : Int} {M2 W : MD} {as bs : List AV}
def AftN (M2 : MD) (bs : List AV) (kc : Int) (K : KT) (P : PT) (J I : IT) (Nx : KT → PT → IT → IT → Prop) : Prop := ∃ Q : PQ, Sp M2 false (rmv 12 400) Q K P J I bs ∧ ∀ r K' P' J' I', Q r K' P' J' I' → r = .inl none ∧ K' 100 = some (11, 0) ∧ K' 50 = some (102, 1) ∧ I' 100 93 = kc ∧ Nx K' P' J' I'
def CaseN (c L : Nat) (xs : Int → Int) (W : MD) (as : List AV) (M2 : MD) (bs : List AV) (K : KT) (P : PT) (J I : IT) (cs ns : Nat) : Prop := (cs ≤ 603072 ∧ ns ≤ 7207018) ∧ ∃ Q : PE, SpE W false ({ frames := 15, cells := 603072 - cs, slots := 7207018 - ns, locals := 660 } : Room) Q K P J I as ∧ ∀ r K' P' J' I' k n, Q (.inl r) K' P' J' I' k n → WF K' P' J' I' → ∃ kc, r = some (vI kc) ∧ LwK K' P' I' L xs ∧ AftN M2 bs kc K' P' J' I' (fun K2 P2 J2 I2 => LI (c + 1) L xs K2 P2 J2 I2 (cs + k) (ns + n))
def OweN (c : Nat) (M2 : MD) (bs : List AV) (K : KT) (P : PT) (I S T : IT) (cs ns : Nat) (kc : Int) (K' : KT) (P' : PT) (I' : IT) (k n : Nat) : Prop := (∀ o, o < 1000 → K' o = K o ∧ P' o = P o ∧ I' o = I o) ∧
  ∃ S1 T1, Sp M2 false (rmv 12 400) (ex (rsK RefN K) (rsP RefN P) T1 S1 (.inl none)) (rsK RefN K) (rsP RefN P) T S bs ∧ S1 100 93 = kc ∧ LR (c + 1) K' P' I' S1 T1 (cs + k) (ns + n)
theorem aft_n {kc : Int} {k n : Nat} (hL : LwK K P I L xs) (hb : ∀ v ∈ bs, ∀ q, v = vR (some q) → RefN q) (ho : OweN c M2 bs K P I (mS I) (rsI RefN J) cs ns kc K' P' I' k n) (hwf : WF K' P' J I') : LwK K' P' I' L xs ∧ AftN M2 bs kc K' P' J I' (fun K2 P2 J2 I2 => LI (c + 1) L xs K2 P2 J2 I2 (cs + k) (ns + n)) := by
  obtain ⟨fr, S1, T1, sp, h93, lr⟩ := ho
  have hL' : LwK K' P' I' L xs := hL.frm (fun o ho => ⟨(fr o ho).1, (fr o ho).2.1⟩) (fr 49 (by decide)).2.2
  have lt : ∀ o, RefN o → o < 1000 := fun o ho => by unfold RefN at ho; omega
  have eK : rsK RefN K' = rsK RefN K := funext (fun o => by
    by_cases z : RefN o
    · rw [show rsK RefN K' o = K' o from rsF_y z, show rsK RefN K o = K o from rsF_y z]; exact (fr o (lt o z)).1
    · rw [show rsK RefN K' o = none from rsF_n z, show rsK RefN K o = none from rsF_n z])
  have eP : rsP RefN P' = rsP RefN P := funext (fun o => by
    by_cases z : RefN o
    · rw [show rsP RefN P' o = P' o from rsF_y z, show rsP RefN P o = P o from rsF_y z]; exact (fr o (lt o z)).2.1
    · rw [show rsP RefN P' o = (fun _ => none) from rsF_n z, show rsP RefN P o = (fun _ => none) from rsF_n z])
  have eI : mS I' = mS I := funext (fun o => by
    by_cases z : RefN o
    · rw [mS_y z, mS_y z]; exact (fr o (lt o z)).2.2
    · rw [mS_n z, mS_n z])
  rw [← eK, ← eP, ← eI] at sp
  refine ⟨hL', _, Sp.refc hwf hL'.1.2 hb (fun r K1 P1 J1 I1 q => ?_) sp, fun r K2 P2 J2 I2 q => ?_⟩
  · exact ⟨q.2.1, q.2.2.1⟩
  · obtain ⟨J1, I1, q1, e1, e2, e3, e4, e5⟩ := q
    subst e1
    subst e2
    obtain ⟨r1, -, -, r4, r5⟩ := q1
    subst r4
    subst r5
    have n50 : ¬ RefN 50 := by unfold RefN; omega
    have n49 : ¬ RefN 49 := by unfold RefN; omega
    refine ⟨r1, hL'.1.1.k rfl, hL'.2.2.1, ?_, hL'.frm (fun _ _ => ⟨rfl, rfl⟩) (e3 49 n49).2, ?_⟩
    · have : mS I2 100 = I2 100 := mS_y (Or.inr (Or.inl rfl))
      rw [← this, e5]; exact h93
    · rw [e4, e5]
      exact lr.frI (fun o ho => (e3 o (by unfold RefN; omega)).2)
/-- the class's call throws, and leaves its world -/
theorem casen_ex {F : MD} {fas : List AV} {kk nn : Nat} {es : List (String × Int)} {b : String × Int} (h : LI c L xs K P J I cs ns) (c5 : c < 512) (hb : ∀ v ∈ bs, ∀ q, v = vR (some q) → RefN q) (hu : ∀ q, q ∈ es → q.1 = b.1 → q = b) (hm : b ∈ es)
    (lw : ∀ {X Y : Nat} {Q0 : PE}, SpE F true ({ frames := 14, cells := X, slots := Y, locals := 600 } : Room) Q0 K P J I fas → LwX (es.map (fun q => q.1)) X Y Q0 → (∀ (k n : Nat) (r : Option AV) (K' : KT) (P' : PT) (J' I' : IT), Q0 (.inl r) K' P' J' I' k n → r = none ∧ k ≤ X ∧ n ≤ Y) → SpE W true ({ frames := 15, cells := X, slots := Y, locals := 660 } : Room) (LwV es Q0) K P J I as)
    (sp : Sp F true ({ frames := 12, cells := kk, slots := nn, locals := 400 } : Room) (ex K P J I (.inr b.1)) K P J I fas) (hk : kk ≤ 1) (hn : nn ≤ 6)
    (ref : Sp M2 false (rmv 12 400) (ex (rsK RefN K) (rsP RefN P) (rsI RefN J) (up2 (mS I) 100 93 b.2) (.inl none)) (rsK RefN K) (rsP RefN P) (rsI RefN J) (mS I) bs) : CaseN c L xs W as M2 bs K P J I cs ns := by
  obtain ⟨hL, hR⟩ := h
  have rm := hR.room (by omega)
  have spE := sp.toE.room (R' := ({ frames := 14, cells := 603072 - cs, slots := 7207018 - ns, locals := 600 } : Room)) (by show 12 ≤ 14; omega) (by show 400 ≤ 600; omega) (by show kk ≤ 603072 - cs; omega) (by show nn ≤ 7207018 - ns; omega)
  have spW := lw spE (fun k n E K1 P1 J1 I1 hq => by
    obtain ⟨⟨e1, -⟩, ek, en⟩ := hq
    have ek2 : k = kk := ek
    have en2 : n = nn := en
    injection e1 with e1
    exact ⟨List.mem_map.mpr ⟨b, hm, e1.symm⟩, by omega, by omega⟩) (fun k n r K1 P1 J1 I1 hq => by
    obtain ⟨⟨e1, -⟩, -⟩ := hq
    cases e1)
  refine ⟨by omega, _, spW.noX (fun E K' P' J' I' k n hq => ?_), fun r K' P' J' I' k n hq hwf => ?_⟩
  · rcases hq with ⟨q, -, -, e⟩ | ⟨-, e⟩
    · cases e
    · cases e
  · rcases hq with ⟨q, hq, ⟨⟨e1, e2, e3, e4, e5⟩, ek, en⟩, e⟩ | ⟨⟨⟨e1, -⟩, -⟩, -⟩
    · have ek2 : k = kk := ek
      have en2 : n = nn := en
      subst e2; subst e3; subst e4; subst e5
      injection e1 with e1
      have := hu q hq e1
      subst this
      refine ⟨q.2, by injection e, aft_n hL hb ⟨fun _ _ => ⟨rfl, rfl, rfl⟩, _, _, ref, up2_eq _ _ _ _, hR.tell c5 (by omega) (by omega)⟩ hwf⟩
    · cases e1
/-- the class's call makes one world -/
theorem casen_det {F : MD} {fas : List AV} {K1 : KT} {P1 : PT} {T1 : IT} {kk nn : Nat} {es : List (String × Int)} (h : LI c L xs K P J I cs ns) (c5 : c < 512) (hb : ∀ v ∈ bs, ∀ q, v = vR (some q) → RefN q)
    (lw : ∀ {X Y : Nat} {Q0 : PE}, SpE F true ({ frames := 14, cells := X, slots := Y, locals := 600 } : Room) Q0 K P J I fas → LwX (es.map (fun q => q.1)) X Y Q0 → (∀ (k n : Nat) (r : Option AV) (K' : KT) (P' : PT) (J' I' : IT), Q0 (.inl r) K' P' J' I' k n → r = none ∧ k ≤ X ∧ n ≤ Y) → SpE W true ({ frames := 15, cells := X, slots := Y, locals := 660 } : Room) (LwV es Q0) K P J I as)
    {R0 : Room} (sp : Sp F true R0 (ex K1 P1 J I1 (.inl none)) K P J I fas) (hR : R0.frames ≤ 14 ∧ R0.locals ≤ 600 ∧ R0.cells = kk ∧ R0.slots = nn) (hk : kk ≤ 100) (hn : nn ≤ 20000) (fr : ∀ o, o < 1000 → K1 o = K o ∧ P1 o = P o ∧ I1 o = I o)
    (ref : Sp M2 false (rmv 12 400) (ex (rsK RefN K) (rsP RefN P) T1 S1 (.inl none)) (rsK RefN K) (rsP RefN P) (rsI RefN J) (mS I) bs) (h93 : S1 100 93 = 0) (lr : LR (c + 1) K1 P1 I1 S1 T1 (cs + kk) (ns + nn)) : CaseN c L xs W as M2 bs K P J I cs ns := by
  have rm := h.2.room (by omega)
  obtain ⟨r1, r2, r3, r4⟩ := hR
  have spE := sp.toE.room (R' := ({ frames := 14, cells := 603072 - cs, slots := 7207018 - ns, locals := 600 } : Room)) r1 r2 (by show R0.cells ≤ 603072 - cs; omega) (by show R0.slots ≤ 7207018 - ns; omega)
  have spW := lw spE (fun k n E K1 P1 J1 I1 hq => by
    obtain ⟨⟨e1, -⟩, -⟩ := hq
    cases e1) (fun k n r K1 P1 J1 I1 hq => by
    obtain ⟨⟨e1, -⟩, ek, en⟩ := hq
    have ek2 : k = kk := ek.trans r3
    have en2 : n = nn := en.trans r4
    injection e1 with e1
    exact ⟨e1, by omega, by omega⟩)
  refine ⟨by omega, _, spW.noX (fun E K' P' J' I' k n hq => ?_), fun r K' P' J' I' k n hq hwf => ?_⟩
  · rcases hq with ⟨q, -, -, e⟩ | ⟨-, e⟩
    · cases e
    · cases e
  · rcases hq with ⟨q, hq, ⟨⟨e1, -⟩, -⟩, -⟩ | ⟨⟨⟨e1, e2, e3, e4, e5⟩, ek, en⟩, e⟩
    · cases e1
    · have ek2 : k = kk := ek.trans r3
      have en2 : n = nn := en.trans r4
      subst e2; subst e3; subst e4; subst e5; subst ek2; subst en2
      exact ⟨0, by injection e, aft_n h.1 hb ⟨fr, _, _, ref, h93, lr⟩ hwf⟩
theorem refn_1 {K1 : KT} {P1 : PT} {J1 S1 : IT} {cd z : Int} {fn : IT → IT × Int} {f l : Nat} (sp : Sp M2 false (rmv f l) (ex K1 P1 J1 (callR cd S1 fn).1 (.inl none)) K1 P1 J1 S1 bs) (h : cd = z) (hz : 0 < z) (hf : f ≤ 12) (hl : l ≤ 400) : Sp M2 false (rmv 12 400) (ex K1 P1 J1 (up2 S1 100 93 z) (.inl none)) K1 P1 J1 S1 bs := by
  rw [callR_1 (by rw [h]; exact hz), h] at sp
  exact sp.room hf hl (Nat.le_refl _) (Nat.le_refl _)
theorem refn_0 {K1 : KT} {P1 : PT} {J1 S1 : IT} {cd : Int} {fn : IT → IT × Int} {f l : Nat} (sp : Sp M2 false (rmv f l) (ex K1 P1 J1 (callR cd S1 fn).1 (.inl none)) K1 P1 J1 S1 bs) (h : cd = 0) (hf : f ≤ 12) (hl : l ≤ 400) : Sp M2 false (rmv 12 400) (ex K1 P1 J1 (fn (up2 S1 100 93 0)).1 (.inl none)) K1 P1 J1 S1 bs := by
  rw [callR_0 (by rw [h]; decide), h] at sp
  exact sp.room hf hl (Nat.le_refl _) (Nat.le_refl _)
theorem case_refer (h : LI c L xs K P J I cs ns) (c5 : c < 512) : CaseN c L xs m_Law_refer [vR (some 1000), vI p1, vI p2, vI p3, vI p4] m_Model_refer [vR (some 100), vI p1, vI p2, vI p3, vI p4] K P J I cs ns := by
  obtain ⟨k1, k2⟩ := h.k1000
  have hM := h.1.1.1.rs
  obtain ⟨S0, hS0⟩ : ∃ S0, S0 = up2 (mS I) 100 93 0 := ⟨_, rfl⟩
  have hl : LR c K P I S0 (rsI RefN J) cs ns := by rw [hS0]; exact h.2.u93
  have sy : ∀ o y, o ≠ 100 ∨ y ≠ 93 → S0 o y = mS I o y := fun o y a => by rw [hS0]; exact sx o y a
  obtain ⟨n, N, g, lq, lv, mv, q, nq, lqq, tn, nv, l3, l4, w, M, eg, qz, dr, qy, vw, ev, pn, rm⟩ := hl
  obtain ⟨⟨b1, b2⟩, ⟨z1, z2, z3⟩, d, f, g1⟩ := id eg
  have mb : MB (mS I) := b2.mb.u93 (fun o y a => (sy o y a).symm)
  have hb := hb_i (z := p4) (hb_i (z := p3) (hb_i (z := p2) (hb_i (z := p1) hb_1)))
  obtain ⟨s0, s6, s00, sw⟩ := sch_of b2
  have c0 := sy 100 0 (Or.inr (by decide))
  have c1 := sy 201 p1 (Or.inl (by decide))
  have c2 := sy 206 (4 * p1 + p2) (Or.inl (by decide))
  have c3 := sy 214 (24 + p1) (Or.inl (by decide))
  have hu := (under_eq b2).1
  rw [under_same sy] at hu
  have rs := b2.sch.1.2.1
  have es3 := es_3 (x := 1) (y := 2) (z := 3) nIA nIS nAS
  have hu3 : ∀ b, b ∈ [(eIOO, (1 : Int)), (eIAE, 2), (eISE, 3)] → ∀ q, q ∈ [(eIOO, (1 : Int)), (eIAE, 2), (eISE, 3)] → q.1 = b.1 → q = b := fun b hb q hq e => es3 q hq b hb e
  by_cases hc : (0 ≤ p1 ∧ p1 < mS I 100 0 ∧ 0 ≤ p2 ∧ p2 < mS I 201 p1) ∧ 0 < p2 ∧ 0 ≤ p3 ∧ p3 < mS I 100 0
  · have n1 : ¬ ¬ (bI (0 ≤ p1 ∧ p1 < mS I 100 0 ∧ 0 ≤ p2 ∧ p2 < mS I 201 p1) ≠ 0 ∧ 0 < p2 ∧ bI (0 ≤ p3 ∧ p3 < mS I 100 0) ≠ 0) := fun y => y ⟨bNe.mpr hc.1, hc.2.1, bNe.mpr hc.2.2⟩
    have t6 : 0 ≤ p1 ∧ p1 < 6 := by omega
    have rw1 := rs p1 t6.1 t6.2
    have sw1 := sw p1 t6.1 t6.2
    have ro := rowsOf_eq b2 t6
    have r6 := (b2.sch.1.2.2.2.1 (4 * p1 + p2) (by omega) (by omega)).1
    rw [show 4 * p1 + p2 = p1 * 4 + p2 by omega] at r6
    rw [show 4 * p1 + p2 = p1 * 4 + p2 by omega] at c2
    have hcc : ((((0 ≤ p1 ∧ p1 < I 1032 0) ∧ 0 ≤ p2 ∧ p2 < I 1034 p1) ∧ p2 ≠ 0) ∧ 0 ≤ p3 ∧ p3 < I 1032 0) := by omega
    by_cases hw : 0 ≤ p4 ∧ p4 ≤ 2
    · have n2 : ¬ bI (0 ≤ p4 ∧ p4 ≤ 2) = 0 := by rw [bI1 hw]; decide
      by_cases h0 : mS I 206 (4 * p1 + p2) = -1 ∧ mS I 214 (24 + p1) = 0 ∧ bI (mUnder (mS I)) = 0
      · have cd0 : cd_Model_refer (mS I) p1 p2 p3 p4 = 0 := (if_neg n1).trans ((if_neg n2).trans (if_pos h0))
        have nu : ¬ 0 < opN I n := fun y => hu.mpr y h0.2.2
        have hno := (under_eq b2).2 nu
        have n20 := qy.1.1.2.1
        have h06 := h0.1
        rw [show 4 * p1 + p2 = p1 * 4 + p2 by omega] at h06
        have hE := ER.refer (r := p4) b2 b1.lev b1.g10 hno n20 (show 0 ≤ p1 ∧ p1 < S0 100 0 by omega) (show 1 ≤ p2 ∧ p2 < S0 201 p1 by omega) (show 0 ≤ p3 ∧ p3 < S0 100 0 by omega)
        have sp := refer_run (J := J) b1.c b1.e qy.1.1 s6 (by omega) hcc hw (by omega) (by omega) (bI0 nu)
        have sp2 : Sp m_Model_refer false (rmv 12 400) (ex (rsK RefN K) (rsP RefN P) (rsI RefN J) (f_Model_refer p1 p2 p3 p4 S0).1 (.inl none)) (rsK RefN K) (rsP RefN P) (rsI RefN J) (mS I) [vR (some 100), vI p1, vI p2, vI p3, vI p4] := by
          rw [hS0]
          exact refn_0 (sp_Model_refer (J := rsI RefN J) (I := mS I) (t := p1) (c := p2) (o := p3) (w := p4) hM mb) cd0 (by decide) (by decide)
        have fS : ∀ o y, ¬ (206 ≤ o ∧ o ≤ 207) → o ≠ 263 → (f_Model_refer p1 p2 p3 p4 S0).1 o y = S0 o y := fun o y a b => (filI_fr b).trans ((up2_o _ _ _ _ (by omega)).trans (up2_o _ _ _ _ (by omega)))
        have f263 : ∀ y, 0 ≤ y → y < 20 → (f_Model_refer p1 p2 p3 p4 S0).1 263 y = 0 := fun y y0 y1 => filI_in ⟨y0, y1⟩
        have fI : ∀ o, ¬ (1032 ≤ o ∧ o < 1064) → up2 (up2 (dpI I nq) 1037 (p1 * 4 + p2) p3) 1038 (p1 * 4 + p2) p4 o = dpI I nq o := fun o ho => funext (fun y => by rw [up2_o _ _ _ _ (by omega), up2_o _ _ _ _ (by omega)])
        generalize up2 (up2 (dpI I nq) 1037 (p1 * 4 + p2) p3) 1038 (p1 * 4 + p2) p4 = I1 at *
        generalize (f_Model_refer p1 p2 p3 p4 S0).1 = S1 at *
        have fo : ∀ o, ¬ (206 ≤ o ∧ o ≤ 207) → o ≠ 263 → S1 o = S0 o := fun o a b => funext (fun y => fS o y a b)
        have zC : ZI (c + 1) (-1) S1 := z1.same (fun o ho => fo o (by omega) (by omega)) (fun y _ => by rw [fo 100 (by decide) (by decide)]) (by rw [fo 100 (by decide) (by decide)]; omega)
        have lr := sch_lr (U := rsI RefN J) eg qz qy vw ev pn rm dr fI (fun o y a b e => fS o y (by omega) b) f263 hE zC (fun t t0 t1 => fS 201 t (by omega) (by decide)) (by rw [fo 100 (by decide) (by decide)]; omega) (fun t ρ => rowSeen_of (by rw [fo 100 (by decide) (by decide)]) (fun o x0 x1 => fo o (by omega) (by omega)))
        exact casen_det (es := [(eIOO, 1), (eIAE, 2), (eISE, 3)]) (kk := 0) (nn := 0) h c5 hb (fun s x r => lw_refer k1 s x r) sp ⟨by decide, by decide, rfl, rfl⟩ (by decide) (by decide) (fun o ho => ⟨rfl, rfl, (fI o (by omega)).trans (dpI_o (Or.inl (by omega)) nq n20)⟩) sp2 (by rw [lr.2, hS0, up2_eq]) lr.1
      · have cd3 : cd_Model_refer (mS I) p1 p2 p3 p4 = 3 := (if_neg n1).trans ((if_neg n2).trans (if_neg h0))
        exact casen_ex (es := [(eIOO, 1), (eIAE, 2), (eISE, 3)]) (b := (eISE, 3)) h c5 hb (hu3 _ (List.mem_cons_of_mem _ (List.mem_cons_of_mem _ (List.mem_singleton.mpr rfl)))) (List.mem_cons_of_mem _ (List.mem_cons_of_mem _ (List.mem_singleton.mpr rfl))) (fun s x r => lw_refer k1 s x r) (refer_no3 b1.c b1.e s6 (by omega) hcc hw (fun y => h0 ⟨by rw [show 4 * p1 + p2 = p1 * 4 + p2 by omega]; omega, by omega, Classical.byContradiction (fun u => y.2.2 (hu.mp u))⟩)) (by decide) (by decide) (refn_1 (sp_Model_refer (J := rsI RefN J) (I := mS I) (t := p1) (c := p2) (o := p3) (w := p4) hM mb) cd3 (by decide) (by decide) (by decide))
    · have n2 := bI0 hw
      have cd2 : cd_Model_refer (mS I) p1 p2 p3 p4 = 2 := (if_neg n1).trans (if_pos n2)
      exact casen_ex (es := [(eIOO, 1), (eIAE, 2), (eISE, 3)]) (b := (eIAE, 2)) h c5 hb (hu3 _ (List.mem_cons_of_mem _ (List.mem_cons_self ..))) (List.mem_cons_of_mem _ (List.mem_cons_self ..)) (fun s x r => lw_refer k1 s x r) (refer_no2 b1.c s6 hcc hw) (by decide) (by decide) (refn_1 (sp_Model_refer (J := rsI RefN J) (I := mS I) (t := p1) (c := p2) (o := p3) (w := p4) hM mb) cd2 (by decide) (by decide) (by decide))
  · have cd1 : cd_Model_refer (mS I) p1 p2 p3 p4 = 1 := if_pos (fun y => hc ⟨bNe.mp y.1, y.2.1, bNe.mp y.2.2⟩)
    refine casen_ex (es := [(eIOO, 1), (eIAE, 2), (eISE, 3)]) (b := (eIOO, 1)) h c5 hb (hu3 _ (List.mem_cons_self ..)) (List.mem_cons_self ..) (fun s x r => lw_refer k1 s x r) (refer_no1 b1.c s6 (fun y => hc ?_)) (by decide) (by decide) (refn_1 (sp_Model_refer (J := rsI RefN J) (I := mS I) (t := p1) (c := p2) (o := p3) (w := p4) hM mb) cd1 (by decide) (by decide) (by decide))
    have := rs p1 y.1.1.1.1 (by omega)
    omega
end
