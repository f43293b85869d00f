/-! hasRead: its answer is 0 or 1 -/
section
variable {K K' : KT} {P P' : PT} {J J' I I' S S' T T' : IT} {c cs ns : Nat} {L : Nat} {xs : Int → Int} {W M2 F : MD} {as bs fas : List AV} {p1 p2 p3 p4 : Int}
def AftRB (M2 : MD) (bs : List AV) (kc : Int) (K : KT) (P : PT) (J I : IT) (Nx : KT → PT → IT → IT → Prop) : Prop := ∃ Q : PQ, Sp M2 false (rmv 12 400) Q K P J I bs ∧ ∀ r K' P' J' I', Q r K' P' J' I' → ∃ b, r = .inl (some (vI b)) ∧ K' 100 = some (11, 0) ∧ K' 50 = some (102, 1) ∧ I' 100 93 = kc ∧ (kc = 0 → J' 50 0 = b) ∧ (kc = 0 → b = 0 ∨ b = 1) ∧ Nx K' P' J' I'
def CaseCB (c L : Nat) (xs : Int → Int) (W : MD) (as : List AV) (M2 : MD) (bs : List AV) (K : KT) (P : PT) (J I : IT) (cs ns : Nat) : Prop := (cs ≤ 603072 ∧ ns ≤ 7207018) ∧ ∃ Q : PE, SpE W false ({ frames := 15, cells := 603072 - cs, slots := 7207018 - ns, locals := 660 } : Room) Q K P J I as ∧ ∀ r K' P' J' I' k n, Q (.inl r) K' P' J' I' k n → WF K' P' J' I' → ∃ kc, r = some (vI kc) ∧ LwK K' P' I' L xs ∧ AftRB M2 bs kc K' P' J' I' (fun K2 P2 J2 I2 => LI (c + 1) L xs K2 P2 J2 I2 (cs + k) (ns + n))
theorem aft_mkB {kc v : Int} {k n : Nat} (hL : LwK K P I L xs) (hb : ∀ v ∈ bs, ∀ q, v = vR (some q) → RefN q) (ho : OweR c M2 bs K P I (mS I) (rsI RefN J) cs ns kc v K' P' I' k n) (hJ : (∀ o, o ≠ 50 → J' o = J o) ∧ (kc = 0 → J' 50 0 = v)) (hv : kc = 0 → v = 0 ∨ v = 1) (hwf : WF K' P' J' I') : LwK K' P' I' L xs ∧ AftRB M2 bs kc K' P' J' I' (fun K2 P2 J2 I2 => LI (c + 1) L xs K2 P2 J2 I2 (cs + k) (ns + n)) := by
  obtain ⟨fr, Q2, sp, hq⟩ := ho
  have hL' : LwK K' P' I' L xs := hL.frm (fun o ho => ⟨(fr o ho).1, (fr o ho).2.1⟩) (fr 49 (by decide)).2.2
  have lt : ∀ o, RefN o → o < 1000 := fun o ho => by unfold RefN at ho; omega
  have eK : rsK RefN K' = rsK RefN K := funext (fun o => by
    by_cases z : RefN o
    · rw [show rsK RefN K' o = K' o from rsF_y z, show rsK RefN K o = K o from rsF_y z]; exact (fr o (lt o z)).1
    · rw [show rsK RefN K' o = none from rsF_n z, show rsK RefN K o = none from rsF_n z])
  have eP : rsP RefN P' = rsP RefN P := funext (fun o => by
    by_cases z : RefN o
    · rw [show rsP RefN P' o = P' o from rsF_y z, show rsP RefN P o = P o from rsF_y z]; exact (fr o (lt o z)).2.1
    · rw [show rsP RefN P' o = (fun _ => none) from rsF_n z, show rsP RefN P o = (fun _ => none) from rsF_n z])
  have eI : mS I' = mS I := funext (fun o => by
    by_cases z : RefN o
    · rw [mS_y z, mS_y z]; exact (fr o (lt o z)).2.2
    · rw [mS_n z, mS_n z])
  have eJ : rsI RefN J' = rsI RefN J := funext (fun o => by
    by_cases z : RefN o
    · rw [show rsI RefN J' o = J' o from rsF_y z, show rsI RefN J o = J o from rsF_y z]; exact hJ.1 o (by unfold RefN at z; omega)
    · rw [show rsI RefN J' o = (fun _ => 0) from rsF_n z, show rsI RefN J o = (fun _ => 0) from rsF_n z])
  rw [← eK, ← eP, ← eI, ← eJ] at sp
  refine ⟨hL', _, Sp.refc hwf hL'.1.2 hb (fun r K1 P1 J1 I1 q => ?_) sp, fun r K2 P2 J2 I2 q => ?_⟩
  · have := hq r K1 P1 J1 I1 q
    rw [eK, eP]
    exact ⟨this.1, this.2.1⟩
  · obtain ⟨J1, I1, q1, e1, e2, e3, e4, e5⟩ := q
    subst e1
    subst e2
    obtain ⟨-, -, b, r1, r2, r3, r4⟩ := hq _ _ _ _ _ q1
    have n50 : ¬ RefN 50 := by unfold RefN; omega
    have n49 : ¬ RefN 49 := by unfold RefN; omega
    refine ⟨b, r1, hL'.1.1.k rfl, hL'.2.2.1, ?_, fun z => ?_, fun z => by rw [← r3 z]; exact hv z, hL'.frm (fun _ _ => ⟨rfl, rfl⟩) (e3 49 n49).2, ?_⟩
    · have : mS I2 100 = I2 100 := mS_y (Or.inr (Or.inl rfl))
      rw [← this, e5]; exact r2
    · rw [(e3 50 n50).1, hJ.2 z]; exact r3 z
    · rw [e4, e5]
      exact r4.frI (fun o ho => (e3 o (by unfold RefN; omega)).2)
theorem case_mkB {es : List (String × Int)} {Q0 : PE} (hL : LwK K P I L xs) (hcs : cs ≤ 603072 ∧ ns ≤ 7207018) (hb : ∀ v ∈ bs, ∀ q, v = vR (some q) → RefN q) (sp : SpE W true ({ frames := 15, cells := 603072 - cs, slots := 7207018 - ns, locals := 660 } : Room) (LwE es Q0) K P J I as) (h0 : ∀ q, q ∈ es → q.2 ≠ 0)
    (hx : ∀ q, q ∈ es → ∀ K' P' J' I' k n, Q0 (.inr q.1) K' P' J' I' k n → J' = J ∧ OweR c M2 bs K P I (mS I) (rsI RefN J) cs ns q.2 0 K' P' I' k n)
    (hr : ∀ v K' P' J' I' k n, Q0 (.inl (some (vI v))) K' P' J' I' k n → J' = J ∧ OweR c M2 bs K P I (mS I) (rsI RefN J) cs ns 0 v K' P' I' k n) (hv9 : ∀ v K' P' J' I' k n, Q0 (.inl (some (vI v))) K' P' J' I' k n → v = 0 ∨ v = 1) : CaseCB c L xs W as M2 bs K P J I cs ns := by
  refine ⟨hcs, LwE es Q0, sp.noX (fun E K' P' J' I' k n hq => ?_), fun r K' P' J' I' k n hq hwf => ?_⟩
  · rcases hq with ⟨q, -, -, e⟩ | ⟨v, J0, -, -, e⟩
    · cases e
    · cases e
  · rcases hq with ⟨q, hm, hq, e⟩ | ⟨v, J0, hq, eJ, e⟩
    · obtain ⟨e1, ow⟩ := hx q hm K' P' J' I' k n hq
      subst e1
      refine ⟨q.2, ?_, aft_mkB hL hb ow ⟨fun _ _ => rfl, fun z => absurd z (h0 q hm)⟩ (fun z => absurd z (h0 q hm)) hwf⟩
      injection e
    · obtain ⟨e1, ow⟩ := hr v K' P' J0 I' k n hq
      subst e1
      refine ⟨0, ?_, aft_mkB hL hb ow ⟨fun o ho => ?_, fun _ => ?_⟩ (fun _ => hv9 v K' P' J0 I' k n hq) hwf⟩
      · injection e
      · rw [eJ]; exact funext (fun z => up2_o _ _ _ _ ho)
      · rw [eJ, up2_eq]
theorem case_exB {R0 : Option AV ⊕ String} {kk nn : Nat} {es : List (String × Int)} (h : LI c L xs K P J I cs ns) (c5 : c < 512) (hb : ∀ v ∈ bs, ∀ q, v = vR (some q) → RefN q) (h0 : ∀ q, q ∈ es → q.2 ≠ 0) (hu : ∀ q, q ∈ es → ∀ q', q' ∈ es → q.1 = q'.1 → q = q')
    (lw : ∀ {X Y : Nat} {Q0 : PE}, (∀ k n (v : Int) (K' : KT) (P' : PT) (J' I' : IT), Q0 (.inl (some (vI v))) K' P' J' I' k n → R0 = .inl (some (vI v))) → SpE F true ({ frames := 14, cells := X, slots := Y, locals := 600 } : Room) Q0 K P J I fas → LwX (es.map (fun q => q.1)) X Y Q0 → LwR X Y Q0 → SpE W true ({ frames := 15, cells := X, slots := Y, locals := 660 } : Room) (LwE es Q0) K P J I as)
    (sp : Sp F true ({ frames := 12, cells := kk, slots := nn, locals := 400 } : Room) (ex K P J I R0) K P J I fas) (hk : kk ≤ 1) (hn : nn ≤ 6)
    (hres : (∃ q b, q ∈ es ∧ R0 = .inr q.1 ∧ Sp M2 false (rmv 12 400) (ex (rsK RefN K) (rsP RefN P) (rsI RefN J) (up2 (mS I) 100 93 q.2) (.inl (some (vI b)))) (rsK RefN K) (rsP RefN P) (rsI RefN J) (mS I) bs) ∨ ∃ v, R0 = .inl (some (vI v)) ∧ Sp M2 false (rmv 12 400) (ex (rsK RefN K) (rsP RefN P) (rsI RefN J) (up2 (mS I) 100 93 0) (.inl (some (vI v)))) (rsK RefN K) (rsP RefN P) (rsI RefN J) (mS I) bs) (hv : ∀ v, R0 = .inl (some (vI v)) → v = 0 ∨ v = 1) : CaseCB c L xs W as M2 bs K P J I cs ns := by
  obtain ⟨hL, hR⟩ := h
  have rm := hR.room (by omega)
  have h50 := hL.2.2.1
  have spE := sp.toE.room (R' := ({ frames := 14, cells := 603072 - cs, slots := 7207018 - ns, locals := 600 } : Room)) (by show 12 ≤ 14; omega) (by show 400 ≤ 600; omega) (by show kk ≤ 603072 - cs; omega) (by show nn ≤ 7207018 - ns; omega)
  refine case_mkB (hv9 := fun v K' P' J' I' k n hq => hv v hq.1.1.symm) (Q0 := fun r K' P' J' I' k n => ex K P J I R0 r K' P' J' I' ∧ k = kk ∧ n = nn) hL (by omega) hb (lw (fun k n v K' P' J' I' hq => hq.1.1.symm) spE (fun k n E K' P' J' I' hq => ?_) (fun k n r K' P' J' I' hq => ?_)) h0 (fun q hq K' P' J' I' k n hQ => ?_) (fun v K' P' J' I' k n hQ => ?_)
  · obtain ⟨⟨e1, -⟩, ek, en⟩ := hq
    rcases hres with ⟨q, b, hq, e, -⟩ | ⟨v, e, -⟩
    · rw [e] at e1
      injection e1 with e1
      exact ⟨List.mem_map.mpr ⟨q, hq, e1.symm⟩, by omega, by omega⟩
    · rw [e] at e1; cases e1
  · obtain ⟨⟨e1, e2, -⟩, ek, en⟩ := hq
    rcases hres with ⟨q, b, hq, e, -⟩ | ⟨v, e, -⟩
    · rw [e] at e1; cases e1
    · rw [e] at e1
      injection e1 with e1
      exact ⟨⟨v, e1⟩, by rw [e2]; exact h50, by omega, by omega⟩
  · obtain ⟨⟨e1, e2, e3, e4, e5⟩, ek, en⟩ := hQ
    subst e2; subst e3; subst e4; subst e5
    refine ⟨rfl, ?_⟩
    rcases hres with ⟨q', b, hq', e, sp2⟩ | ⟨v, e, -⟩
    · rw [e] at e1
      injection e1 with e1
      have := hu q hq q' hq' e1
      subst this
      exact owe_tell hR c5 sp2 (fun z => absurd z (h0 q hq)) (by omega) (by omega)
    · rw [e] at e1; cases e1
  · obtain ⟨⟨e1, e2, e3, e4, e5⟩, ek, en⟩ := hQ
    subst e2; subst e3; subst e4; subst e5
    refine ⟨rfl, ?_⟩
    rcases hres with ⟨q', b, hq', e, -⟩ | ⟨v', e, sp2⟩
    · rw [e] at e1; cases e1
    · rw [e] at e1
      injection e1 with e1
      injection e1 with e1
      injection e1 with e1
      subst e1
      exact owe_tell hR c5 sp2 (fun _ => rfl) (by omega) (by omega)
theorem case_hasReadB (h : LI c L xs K P J I cs ns) (c5 : c < 512) : CaseCB c L xs m_Law_hasRead [vR (some 1000), vI p1, vI p2, vI p3, vR (some 50)] m_Model_hasRead [vR (some 100), vI p1, vI p2, vI p3] K P J I cs ns := by
  obtain ⟨k1, k2⟩ := h.k1000
  obtain ⟨n, N, g, lq, lv, mv, q, nq, lqq, tn, nv, l3, l4, w, M, ⟨⟨b1, b2⟩, ⟨z1, -⟩, -⟩, -⟩ := h.2
  have c19 := b2.cnt.1
  obtain ⟨s0, s6, s00, sw⟩ := sch_of b2
  have rf := sp_Model_hasRead (J := rsI RefN J) (i := p1) (t := p2) (key := p3) h.1.1.1.rs b2.mb (fun j => by
    by_cases y : 0 ≤ j ∧ j < mS I 100 19
    · have := b2.rd.1 j.toNat (by omega)
      rw [show ((j.toNat : Nat) : Int) = j by omega] at this
      have := b2.rd.2.2
      omega
    · rw [z1.2.2.2.1.1 j y]; omega)
  by_cases hc : (0 ≤ p1 ∧ p1 < mS I 100 19) ∧ 0 ≤ p2 ∧ p2 < mS I 100 0
  · obtain ⟨i, hi⟩ : ∃ i : Nat, p1 = i := ⟨p1.toNat, by omega⟩
    subst hi
    have hn : i < n := by omega
    have t6 : 0 ≤ p2 ∧ p2 < 6 := by omega
    have r0 := ref_0 rf (if_neg (fun z => z.elim (fun u => by rw [bI1 hc.1] at u; exact absurd u (by decide)) (fun u => by rw [bI1 hc.2] at u; exact absurd u (by decide)))) (by decide) (by decide)
    have ev := hasRead_eq (y := p3) b2 hn t6
    refine case_exB (hv := fun v e => by
      injection e with e
      injection e with e
      injection e with e
      rw [← e]
      exact bI_01 _) (kk := 0) (nn := 0) (es := [(eIOO, 1)]) h c5 (hb_i (hb_i (hb_i hb_1))) (fun q hq => by rw [List.mem_singleton.mp hq]; decide) es_1 (fun z s x r => lw_hasRead k1 k2 s x r (fun k n v K' P' J' I' hq => by
      have e := z k n v K' P' J' I' hq
      injection e with e
      injection e with e
      injection e with e
      rw [← e]
      exact bI_01 _)) (hasRead_run (y := p3) b1.c b1.e hn s6 (by omega) (b1.t hn).2.1) (by decide) (by decide) (Or.inr ⟨_, rfl, ?_⟩)
    rw [ev]
    have em : mRead (up2 (mS I) 100 93 0) i p2 p3 = mRead (mS I) i p2 p3 := by
      unfold mRead
      rw [up2_o _ _ _ _ (by decide), up2_o _ _ _ _ (by decide)]
      simp only [up2_o _ _ _ _ (show (234 : Nat) ≠ 100 by decide), up2_o _ _ _ _ (show (235 : Nat) ≠ 100 by decide)]
    have r1 : (f_Model_hasRead i p2 p3 (up2 (mS I) 100 93 0)).2 = bI (mRead (mS I) i p2 p3) := by
      show bI (mRead (up2 (mS I) 100 93 0) i p2 p3) = _
      rw [em]
    rw [← r1]
    exact r0
  · have hn : ¬ ((0 ≤ p1 ∧ p1 < n) ∧ 0 ≤ p2 ∧ p2 < I 1032 0) := by omega
    refine case_exB (hv := fun v e => by cases e) (es := [(eIOO, 1)]) h c5 (hb_i (hb_i (hb_i hb_1))) (fun q hq => by rw [List.mem_singleton.mp hq]; decide) es_1 (fun z s x r => lw_hasRead k1 k2 s x r (fun k n v K' P' J' I' hq => by
      have e := z k n v K' P' J' I' hq
      cases e)) (hasRead_no1 (y := p3) b1.c b1.e hn) (by decide) (by decide) (Or.inl ⟨(eIOO, 1), _, List.mem_singleton.mpr rfl, rfl, ref_1 rf (if_pos ?_) (by decide) (by decide) (by decide)⟩)
    by_cases y : 0 ≤ p1 ∧ p1 < mS I 100 19
    · exact Or.inr (bI0 (fun z => hc ⟨y, z⟩))
    · exact Or.inl (bI0 y)
end
