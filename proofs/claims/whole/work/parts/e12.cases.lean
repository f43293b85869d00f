/-! a call of the law: the class's, then the reference's -/
section
variable {K K' : KT} {P P' : PT} {J J' I I' S S' T T' : IT} {c cs ns : Nat} {L : Nat} {xs : Int → Int} {W M2 : MD} {as bs : List AV}
/-- the law's own world: the reference, the script, the place for answers -/
def LwK (K : KT) (P : PT) (I : IT) (L : Nat) (xs : Int → Int) : Prop := (MW K P ∧ LwP P) ∧ K 999 = some (104, 0) ∧ K 50 = some (102, 1) ∧ K 49 = some (14, L) ∧ I 49 = xs
theorem LwK.frm (h : LwK K P I L xs) (e : ∀ o, o < 1000 → K' o = K o ∧ P' o = P o) (eI : I' 49 = I 49) : LwK K' P' I' L xs := by
  obtain ⟨⟨⟨a1, a2⟩, b1, b2, b3⟩, d, f, g, i⟩ := h
  have k3 : ∀ o kd, KM o = some kd → o < 1000 := fun o kd hk => by
    have ho := MW.rs ⟨a1, a2⟩
    by_cases z : RefN o
    · unfold RefN at z; omega
    · have := ho.1 o kd hk
      rw [show rsK RefN K o = none from rsF_n z] at this
      cases this
  refine ⟨⟨⟨fun o kd hk => ?_, fun k hk => ?_⟩, fun k => ?_, fun o o0 o1 k => ?_, fun k q hq => ?_⟩, (e 999 (by decide)).1.trans d, (e 50 (by decide)).1.trans f, (e 49 (by decide)).1.trans g, eI.trans i⟩
  · rw [(e o (k3 o kd hk)).1]; exact a1 o kd hk
  · rw [(e 100 (by decide)).2]; exact a2 k hk
  · rw [(e 999 (by decide)).2]; exact b1 k
  · rw [(e o (by omega)).2]; exact b2 o o0 o1 k
  · rw [(e 100 (by decide)).2] at hq; exact b3 k q hq
/-- the invariant of the law's loop, c calls made -/
def LI (c L : Nat) (xs : Int → Int) (K : KT) (P : PT) (J I : IT) (cs ns : Nat) : Prop := LwK K P I L xs ∧ LR c K P I (mS I) (rsI RefN J) cs ns
/-- behind the class's call, which told kc: the reference's tells the same, and what the class told -/
def AftR (M2 : MD) (bs : List AV) (kc : Int) (K : KT) (P : PT) (J I : IT) (Nx : KT → PT → IT → IT → Prop) : Prop := ∃ Q : PQ, Sp M2 false (rmv 12 400) Q K P J I bs ∧ ∀ r K' P' J' I', Q r K' P' J' I' → ∃ b, r = .inl (some (vI b)) ∧ K' 100 = some (11, 0) ∧ K' 50 = some (102, 1) ∧ I' 100 93 = kc ∧ (kc = 0 → J' 50 0 = b) ∧ Nx K' P' J' I'
def CaseC (c L : Nat) (xs : Int → Int) (W : MD) (as : List AV) (M2 : MD) (bs : List AV) (K : KT) (P : PT) (J I : IT) (cs ns : Nat) : Prop := (cs ≤ 603072 ∧ ns ≤ 7207018) ∧ ∃ Q : PE, SpE W false ({ frames := 15, cells := 603072 - cs, slots := 7207018 - ns, locals := 660 } : Room) Q K P J I as ∧ ∀ r K' P' J' I' k n, Q (.inl r) K' P' J' I' k n → WF K' P' J' I' → ∃ kc, r = some (vI kc) ∧ LwK K' P' I' L xs ∧ AftR M2 bs kc K' P' J' I' (fun K2 P2 J2 I2 => LI (c + 1) L xs K2 P2 J2 I2 (cs + k) (ns + n))
/-- what an end of the class's call owes: kc what it told, v its answer -/
def OweR (c : Nat) (M2 : MD) (bs : List AV) (K : KT) (P : PT) (I S T : IT) (cs ns : Nat) (kc v : Int) (K' : KT) (P' : PT) (I' : IT) (k n : Nat) : Prop := (∀ o, o < 1000 → K' o = K o ∧ P' o = P o ∧ I' o = I o) ∧
  ∃ Q2 : PQ, Sp M2 false (rmv 12 400) Q2 (rsK RefN K) (rsP RefN P) T S bs ∧ ∀ r K1 P1 J1 I1, Q2 r K1 P1 J1 I1 → K1 = rsK RefN K ∧ P1 = rsP RefN P ∧ ∃ b, r = .inl (some (vI b)) ∧ I1 100 93 = kc ∧ (kc = 0 → v = b) ∧ LR (c + 1) K' P' I' I1 J1 (cs + k) (ns + n)
theorem aft_mk {kc v : Int} {k n : Nat} (hL : LwK K P I L xs) (hb : ∀ v ∈ bs, ∀ q, v = vR (some q) → RefN q) (ho : OweR c M2 bs K P I (mS I) (rsI RefN J) cs ns kc v K' P' I' k n) (hJ : (∀ o, o ≠ 50 → J' o = J o) ∧ (kc = 0 → J' 50 0 = v)) (hwf : WF K' P' J' I') : LwK K' P' I' L xs ∧ AftR M2 bs kc K' P' J' I' (fun K2 P2 J2 I2 => LI (c + 1) L xs K2 P2 J2 I2 (cs + k) (ns + n)) := by
  obtain ⟨fr, Q2, sp, hq⟩ := ho
  have hL' : LwK K' P' I' L xs := hL.frm (fun o ho => ⟨(fr o ho).1, (fr o ho).2.1⟩) (fr 49 (by decide)).2.2
  have lt : ∀ o, RefN o → o < 1000 := fun o ho => by unfold RefN at ho; omega
  have eK : rsK RefN K' = rsK RefN K := funext (fun o => by
    by_cases z : RefN o
    · rw [show rsK RefN K' o = K' o from rsF_y z, show rsK RefN K o = K o from rsF_y z]; exact (fr o (lt o z)).1
    · rw [show rsK RefN K' o = none from rsF_n z, show rsK RefN K o = none from rsF_n z])
  have eP : rsP RefN P' = rsP RefN P := funext (fun o => by
    by_cases z : RefN o
    · rw [show rsP RefN P' o = P' o from rsF_y z, show rsP RefN P o = P o from rsF_y z]; exact (fr o (lt o z)).2.1
    · rw [show rsP RefN P' o = (fun _ => none) from rsF_n z, show rsP RefN P o = (fun _ => none) from rsF_n z])
  have eI : mS I' = mS I := funext (fun o => by
    by_cases z : RefN o
    · rw [mS_y z, mS_y z]; exact (fr o (lt o z)).2.2
    · rw [mS_n z, mS_n z])
  have eJ : rsI RefN J' = rsI RefN J := funext (fun o => by
    by_cases z : RefN o
    · rw [show rsI RefN J' o = J' o from rsF_y z, show rsI RefN J o = J o from rsF_y z]; exact hJ.1 o (by unfold RefN at z; omega)
    · rw [show rsI RefN J' o = (fun _ => 0) from rsF_n z, show rsI RefN J o = (fun _ => 0) from rsF_n z])
  rw [← eK, ← eP, ← eI, ← eJ] at sp
  refine ⟨hL', _, Sp.refc hwf hL'.1.2 hb (fun r K1 P1 J1 I1 q => ?_) sp, fun r K2 P2 J2 I2 q => ?_⟩
  · have := hq r K1 P1 J1 I1 q
    rw [eK, eP]
    exact ⟨this.1, this.2.1⟩
  · obtain ⟨J1, I1, q1, e1, e2, e3, e4, e5⟩ := q
    subst e1
    subst e2
    obtain ⟨-, -, b, r1, r2, r3, r4⟩ := hq _ _ _ _ _ q1
    have n50 : ¬ RefN 50 := by unfold RefN; omega
    have n49 : ¬ RefN 49 := by unfold RefN; omega
    refine ⟨b, r1, hL'.1.1.k rfl, hL'.2.2.1, ?_, fun z => ?_, hL'.frm (fun _ _ => ⟨rfl, rfl⟩) (e3 49 n49).2, ?_⟩
    · have : mS I2 100 = I2 100 := mS_y (Or.inr (Or.inl rfl))
      rw [← this, e5]; exact r2
    · rw [(e3 50 n50).1, hJ.2 z]; exact r3 z
    · rw [e4, e5]
      exact r4.frI (fun o ho => (e3 o (by unfold RefN; omega)).2)
/-- a case whose wrapper catches es -/
theorem case_mk {es : List (String × Int)} {Q0 : PE} (hL : LwK K P I L xs) (hcs : cs ≤ 603072 ∧ ns ≤ 7207018) (hb : ∀ v ∈ bs, ∀ q, v = vR (some q) → RefN q) (sp : SpE W true ({ frames := 15, cells := 603072 - cs, slots := 7207018 - ns, locals := 660 } : Room) (LwE es Q0) K P J I as) (h0 : ∀ q, q ∈ es → q.2 ≠ 0)
    (hx : ∀ q, q ∈ es → ∀ K' P' J' I' k n, Q0 (.inr q.1) K' P' J' I' k n → J' = J ∧ OweR c M2 bs K P I (mS I) (rsI RefN J) cs ns q.2 0 K' P' I' k n)
    (hr : ∀ v K' P' J' I' k n, Q0 (.inl (some (vI v))) K' P' J' I' k n → J' = J ∧ OweR c M2 bs K P I (mS I) (rsI RefN J) cs ns 0 v K' P' I' k n) : CaseC c L xs W as M2 bs K P J I cs ns := by
  refine ⟨hcs, LwE es Q0, sp.noX (fun E K' P' J' I' k n hq => ?_), fun r K' P' J' I' k n hq hwf => ?_⟩
  · rcases hq with ⟨q, -, -, e⟩ | ⟨v, J0, -, -, e⟩
    · cases e
    · cases e
  · rcases hq with ⟨q, hm, hq, e⟩ | ⟨v, J0, hq, eJ, e⟩
    · obtain ⟨e1, ow⟩ := hx q hm K' P' J' I' k n hq
      subst e1
      refine ⟨q.2, ?_, aft_mk hL hb ow ⟨fun _ _ => rfl, fun z => absurd z (h0 q hm)⟩ hwf⟩
      injection e
    · obtain ⟨e1, ow⟩ := hr v K' P' J0 I' k n hq
      subst e1
      refine ⟨0, ?_, aft_mk hL hb ow ⟨fun o ho => ?_, fun _ => ?_⟩ hwf⟩
      · injection e
      · rw [eJ]; exact funext (fun z => up2_o _ _ _ _ ho)
      · rw [eJ, up2_eq]
end
