/-! insert, update, delete: class and reference -/
section
variable {K K' : KT} {P P' : PT} {J I I' S0 B T U : IT} {c cs ns n N N' g g' lq nq lqq tn nv l3 l4 w i k z m' : Nat} {lv mv lv' mv' : Nat → Nat} {q : Int} {M : List (List Int)} {L : Nat} {xs : Int → Int} {p1 p2 p3 p4 p5 : Int}
theorem FreeT.frm2 (h : FreeT K I n) (hn : n ≤ 60) (e : ∀ o, 2000 + 128 * n ≤ o → o < 10000 → K' o = K o ∧ I' o = I o) : FreeT K' I' n := fun j j0 j1 a ha => by
  have x : 2000 + 128 * n ≤ tX j + a ∧ tX j + a < 10000 := by unfold tX; omega
  obtain ⟨e1, e2⟩ := e _ x.1 x.2
  rw [e1, e2]
  exact h j j0 j1 a ha
/-- the engine settled, for one call: i was tried -/
theorem wr_step (eg : EgR c K P I S0 n N g lq lv mv q) (qz : QzR c n nq tn S0 q) (qy : QyR K P I S0 nq lqq tn) (vw : VwI K P I S0 nq nv l3 l4) (ev : EvI2 K P I S0 w M) (pn : PnI c I S0 U nq) (rm : RmR c g n nq nv lq lqq lv mv cs ns) (c5 : c < 512)
    (hBS : ∀ o y, ¬ (227 ≤ o ∧ o ≤ 232) → ¬ (o = 100 ∧ y = 37) → B o y = S0 o y) (hT : ∃ m X, T = mSettle m X ∧ SetOK m X) (hB : CB K' P' I' n N' g' lq lv' mv') (hE : ER I' T n N' g' lv' mv' (q + 4)) (hZ : ZB B (c + 1) (-1) T) (hr : k + pC g n lv mv = pC g' n lv' mv' ∧ z + pS g n lv mv = pS g' n lv' mv') (hc : ∀ j, j < n → I' (tX j) 14 + 5 * mM T n ≤ I (tX j) 14 + 5 * mM S0 n + 5) (hF : ∀ o, o ≠ 1000 → ¬ nEn n o → K' o = K o ∧ P' o = P o ∧ I' o = I o) (e10 : K' 1000 = K 1000 ∧ P' 1000 = P 1000) (dr : DrR I' T) : LR (c + 1) K' P' I' T U (cs + k) (ns + z) ∧ T 100 93 = S0 100 93 := by
  obtain ⟨⟨b1, b2⟩, ⟨z1, z2, z3⟩, d, f, g1⟩ := eg
  have n60 := b1.e.2.1
  obtain ⟨m, X, eT, hS⟩ := hT
  have fr : ∀ o y, ¬ tyX o y → ¬ (227 ≤ o ∧ o ≤ 232) → ¬ (o = 100 ∧ y = 37) → T o y = S0 o y := fun o y a b d => (hZ.2.1 o y a).trans (hBS o y b d)
  have f1 : ∀ y, y ≠ 37 → y ≠ 41 → y ≠ 44 → T 100 y = S0 100 y := fun y a b d => fr 100 y (by unfold tyX; omega) (by omega) (by omega)
  have en : ∀ o, ¬ nEg o → K' o = K o ∧ P' o = P o ∧ I' o = I o := fun o ho => hF o (by unfold nEg at ho; omega) (by unfold nEg at ho; unfold nEn; omega)
  have s4 : St4 S0 T := by
    have a : St4 S0 B := ⟨fun y _ => hBS 214 y (by omega) (by omega), fun y _ => hBS 215 y (by omega) (by omega)⟩
    exact a.tr hZ.2.2.2
  obtain ⟨r1, r2, r3, r4⟩ := eng_rest (c := c) (U := U) (U' := U) qy vw ev pn ⟨b2.sch.2, hE.sch.2⟩ en (by rw [e10.2]) (fun o y ho => fr o y (by unfold sEg at ho; unfold tyX; omega) (by unfold sEg at ho; omega) (by unfold sEg at ho; omega)) s4 rfl
  refine ⟨⟨n, N', g', lq, lv', mv', q + 4, nq, lqq, tn, nv, l3, l4, w, M, ⟨⟨hB, hE⟩, ⟨hZ.1, by rw [eT]; exact settle_next m X hS, by rw [f1 16 (by decide) (by decide) (by decide)]; omega⟩, fun j hj => ?_, f.frm2 n60 (fun o o0 o1 => ?_), g1.frm (fun o o0 o1 => (hF o (by omega) (by unfold nEn; omega)).2.1)⟩, ?_, dr, r1, r2, r3, r4, ?_⟩, f1 93 (by decide) (by decide) (by decide)⟩
  · have a := hc j hj
    have b := d j hj
    omega
  · have a := hF o (by omega) (by unfold nEn; omega)
    exact ⟨a.1, a.2.2⟩
  · unfold QzR at *
    rw [f1 0 (by decide) (by decide) (by decide)]
    omega
  · unfold RmR at *
    omega
/-- an end of the class's call that owes what settling leaves -/
theorem wr_owe {M2 : MD} {bs : List AV} {S : IT} {fn : Int} (hS0 : S0 = up2 S 100 93 0) (hF : ∀ o, o ≠ 1000 → ¬ nEn n o → K' o = K o ∧ P' o = P o ∧ I' o = I o) (sp : Sp M2 false (rmv 12 400) (ex (rsK RefN K) (rsP RefN P) U T (.inl (some (vI fn)))) (rsK RefN K) (rsP RefN P) U S bs) (hv : p1 = fn) (hl : LR (c + 1) K' P' I' T U (cs + k) (ns + z) ∧ T 100 93 = S0 100 93) : OweR c M2 bs K P I S U cs ns 0 p1 K' P' I' k z := by
  refine ⟨fun o ho => hF o (by omega) (by unfold nEn; omega), _, sp, fun r K1 P1 J1 I1 hq => ?_⟩
  obtain ⟨e1, e2, e3, e4, e5⟩ := hq
  subst e4
  subst e5
  refine ⟨e2, e3, fn, e1, ?_, fun _ => hv, hl.1⟩
  rw [hl.2, hS0, up2_eq]
theorem rsv_1 {j : Nat} (h : B 227 j ≠ 0) : rsv B j = 1 := if_neg h
theorem ez_1 {a : String} {x : Int} (hx : x ≠ 0) : ∀ q, q ∈ [(a, x)] → q.2 ≠ 0 := fun q hq => by
  rw [List.mem_singleton.mp hq]; exact hx
theorem ez_2 {a b : String} {x y : Int} (hx : x ≠ 0) (hy : y ≠ 0) : ∀ q, q ∈ [(a, x), (b, y)] → q.2 ≠ 0 := fun q hq => by
  rcases List.mem_cons.mp hq with z | z
  · rw [z]; exact hx
  · exact ez_1 hy q z
theorem ez_3 {a b d : String} {x y z : Int} (hx : x ≠ 0) (hy : y ≠ 0) (hz : z ≠ 0) : ∀ q, q ∈ [(a, x), (b, y), (d, z)] → q.2 ≠ 0 := fun q hq => by
  rcases List.mem_cons.mp hq with w | w
  · rw [w]; exact hx
  · exact ez_2 hy hz q w
/-- a write that may be asked for -/
theorem case_write {F W M2 : MD} {fas as bs : List AV} {es : List (String × Int)} {I1 : IT} (h : LI c L xs K P J I cs ns) (c5 : c < 512) (hb : ∀ v ∈ bs, ∀ q, v = vR (some q) → RefN q) (h0 : ∀ q, q ∈ es → q.2 ≠ 0) (hS0 : S0 = up2 (mS I) 100 93 0)
    (lw : ∀ {X Y : Nat} {Q0 : PE}, SpE F true ({ frames := 14, cells := X, slots := Y, locals := 600 } : Room) Q0 K P J I fas → LwX (es.map (fun q => q.1)) X Y Q0 → LwR X Y Q0 → SpE W true ({ frames := 15, cells := X, slots := Y, locals := 660 } : Room) (LwE es Q0) K P J I as)
    (eg : EgR c K P I S0 n N g lq lv mv q) (qz : QzR c n nq tn S0 q) (qy : QyR K P I S0 nq lqq tn) (vw : VwI K P I S0 nq nv l3 l4) (ev : EvI2 K P I S0 w M) (pn : PnI c I S0 (rsI RefN J) nq) (rm : RmR c g n nq nv lq lqq lv mv cs ns) (hi : i < n) (o0 : S0 221 i = 0)
    (hBS : ∀ o y, ¬ (227 ≤ o ∧ o ≤ 232) → ¬ (o = 100 ∧ y = 37) → B o y = S0 o y) (hI1 : ∀ o, o ≠ 1000 → I1 o = I o)
    (sp : (2100 ≤ (603072 - cs) + pC g n lv mv ∧ 5306448 ≤ (7207018 - ns) + pS g n lv mv) → (∀ j, j < n → I (tX j) 14 + 5 * mM S0 n + 5 ≤ 8190) → SpE F true ({ frames := 13, cells := 603072 - cs, slots := 7207018 - ns, locals := 560 } : Room) (RetE (fun T => T 222 i) (TryP B i) (fun j => I (tX j) 14 + 5 * mM S0 n + (if j = i then 5 else 0)) (ZB B (c + 1)) K P J I1 (mTry1 B i) n g lq lv mv (q + 4)) K P J I fas)
    (spM : ∀ m', TryP B i → SetOK m' (mTry1 B i) → Sp M2 false (rmv 12 400) (ex (rsK RefN K) (rsP RefN P) (rsI RefN J) (mSettle m' (mTry1 B i)) (.inl (some (vI (mTriesV B i))))) (rsK RefN K) (rsP RefN P) (rsI RefN J) (mS I) bs)
    (dr : ∀ (I' T : IT), I' 1000 = I1 1000 → I' 1009 = I 1009 → T 238 = B 238 → T 100 37 = B 100 37 → DrR I' T) : CaseC c L xs W as M2 bs K P J I cs ns := by
  have rm0 := h.2.room (by omega)
  obtain ⟨k1, k2⟩ := h.k1000
  obtain ⟨hL, -⟩ := h
  obtain ⟨⟨b1, b2⟩, ⟨z1, z2, z3⟩, d, f, g1⟩ := id eg
  have n60 := b1.e.2.1
  have hY : 2100 ≤ (603072 - cs) + pC g n lv mv ∧ 5306448 ≤ (7207018 - ns) + pS g n lv mv := by
    unfold RmR at rm
    have a1 := pl_b lq b1.e.1.2.2.1
    have a2 := pl_b lqq qy.1.1.1.2.2.1
    have a3 := qy.1.1.2.1
    have a4 := vw.1.1.2.1
    omega
  have hd : ∀ j, j < n → I (tX j) 14 + 5 * mM S0 n + 5 ≤ 8190 := fun j hj => by have := d j hj; omega
  refine case_mk hL (by omega) hb (lw ((sp hY hd).room (by show 13 ≤ 14; omega) (by show 560 ≤ 600; omega) (Nat.le_refl _) (Nat.le_refl _)) (fun k z E K' P' J' I' hq => ?_) (fun k z r K' P' J' I' hq => ?_)) h0 (fun q hq K' P' J' I' k z hQ => ?_) (fun v K' P' J' I' k z hQ => ?_)
  · obtain ⟨-, -, m', N', g', lv', mv', e, -⟩ := hq
    cases e
  · obtain ⟨-, -, m', N', g', lv', mv', e, e2, -, -, -, e3, e4, e5⟩ := hq
    injection e with e
    have po := e2.pot (fun j hj => by
      have a := e4 j hj
      dsimp only at a
      have b := hd j hj
      have m := (mM_rg (S := mSettle m' (mTry1 B i)) (n := n)).2.2
      split at a <;> omega)
    exact ⟨⟨_, e⟩, (e5 50 (by unfold nEn; omega)).1.trans k2, by omega, by omega⟩
  · obtain ⟨-, -, m', N', g', lv', mv', e, -⟩ := hQ
    cases e
  · obtain ⟨eJ, hTP, m', N', g', lv', mv', e, e2, e3, e4, e5, e6, e7, e8⟩ := hQ
    injection e with e
    injection e with e
    injection e with e
    refine ⟨eJ, ?_⟩
    have told := settle_told (m := m') (i := i) (X := B) (N := N) ((mNext_of (S := S0) (funext (fun y => hBS 221 y (by omega) (by omega))) (funext (fun y => hBS 225 y (by omega) (by omega))) (hBS 100 19 (by omega) (by omega))).trans z2) ((hBS 221 i (by omega) (by omega)).trans o0) ((hBS 100 44 (by omega) (by omega)).trans b2.cnt.2.1)
    have e8' : ∀ o, o ≠ 1000 → ¬ nEn n o → K' o = K o ∧ P' o = P o ∧ I' o = I o := fun o a b => ⟨(e8 o b).1, (e8 o b).2.1, (e8 o b).2.2.trans (hI1 o a)⟩
    have k1000 := e8 1000 (by unfold nEn; omega)
    exact wr_owe hS0 e8' (spM m' hTP e4) (e.trans told) (wr_step eg qz qy vw ev pn rm c5 hBS ⟨m', _, rfl, e4⟩ e2 e3 e5 e6 (fun j hj => by
      have a := e7 j hj
      dsimp only at a
      split at a <;> omega) e8' ⟨k1000.1, k1000.2.1⟩ (dr I' _ k1000.2.2 (e8' 1009 (by decide) (by unfold nEn; omega)).2.2 (funext (fun y => e5.2.1 238 y (by unfold tyX; omega))) (e5.2.1 100 37 (by unfold tyX; omega))))
end
