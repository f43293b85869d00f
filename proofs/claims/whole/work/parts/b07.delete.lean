/-! RowForge.delete, where it may be called -/
section
variable {K : KT} {P : PT} {J I I' S S' : IT} {n N g lq i : Nat} {lv mv : Nat → Nat} {q t y : Int} {Z : Int → IT → Prop} {X Y : Nat}
/-- a write is planned -/
theorem ER.plan (h : ER I S n N g lv mv q) (hl : ∀ j, j < n → lv j < 15 ∧ mv j < 15) (hg : g < 10) (hi : i < n) (h0 : S 221 i = 0) (hI : ∀ o k, ¬ (o = tX i ∧ 7 ≤ k ∧ k ≤ 11) → I' o k = I o k) (hS : ∀ o k, ¬ (227 ≤ o ∧ o ≤ 231 ∧ k = (i : Int)) → S' o k = S o k) : ER I' S' n N g lv mv q := by
  have n60 := h.cnt.2.2.1
  have x0 : 2000 ≤ tX i ∧ tX i + 128 ≤ 10000 := by unfold tX; omega
  have eo : ∀ o, (o < 227 ∨ 231 < o) → S' o = S o := fun o ho => funext (fun k => hS o k (fun z => by omega))
  have io : ∀ o, o ≠ tX i → I' o = I o := fun o ho => funext (fun k => hI o k (fun z => ho z.1))
  have e221 := eo 221 (by decide)
  have e225 := eo 225 (by decide)
  have rd : ∀ j t y, mRead S' j t y ↔ mRead S j t y := fun j t y => by unfold mRead; rw [eo 233 (by decide), eo 234 (by decide), eo 235 (by decide), eo 236 (by decide)]
  refine h.keep (fun j => by unfold opS; rw [e221]) (fun j _ => by rw [e221]) (fun o ho => io o (by unfold erI at ho; omega)) (io _ (by omega)) (fun j hj => ?_) (fun o ho => eo o (by omega)) (fun k _ => by rw [eo 100 (by decide)]) (h.mb.of (by rw [eo 100 (by decide)]) (by rw [eo 100 (by decide)]) (by rw [eo 100 (by decide)]) (fun k => by rw [eo 201 (by decide)]) (fun k => by rw [eo 202 (by decide)]) (fun k => by rw [eo 206 (by decide)]) (fun k => by rw [eo 211 (by decide)]) (fun k => by rw [eo 214 (by decide)]; exact h.mb.row k) (fun k => by rw [eo 223 (by decide)]) (fun k => by rw [eo 236 (by decide)]; exact h.mb.who k)) (fun j hj => ?_) (by rw [e221, e225]; exact h.ph) (h.ac.cut (fun y => Or.inl (by rw [e225]))) (by rw [eo 233 (by decide), eo 234 (by decide)]; exact h.rd) (fun j hj h1 => ?_)
  · have := (hl j hj).2
    exact ⟨io _ (by unfold tX; omega), hI _ 17 (fun z => by omega), io _ (by unfold tX; omega)⟩
  · obtain ⟨a, r⟩ := h.tx j hj
    have l15 := (hl j hj).1
    refine ⟨?_, (r.ofI (hI _ 13 (fun z => by omega)) (hI _ 14 (fun z => by omega)) (io _ (by unfold tX; omega)) (io _ (by unfold tX; omega))).ofS (fun t y _ _ => ⟨rd _ t y, by rw [eo 236 (by decide)]⟩)⟩
    rw [hI _ 0 (fun z => by omega), hI _ 1 (fun z => by omega), hI _ 2 (fun z => by omega), hI _ 4 (fun z => by omega), hI _ 5 (fun z => by omega), hI _ 6 (fun z => by omega), eo 220 (by decide), eo 224 (by decide), e221, eo 222 (by decide), e225]
    exact a
  · rw [e221] at h1
    have ne : j ≠ i := fun z => by rw [z] at h1; omega
    obtain ⟨p, w⟩ := h.pd j hj h1
    have ej : ∀ o, 227 ≤ o → o ≤ 231 → S' o j = S o j := fun o a b => hS o j (fun z => by omega)
    have y' : ∀ t y, YS S' j t y ↔ YS S j t y := fun t y => by
      unfold YS mInY
      rw [ej 227 (by decide) (by decide), ej 228 (by decide) (by decide), ej 229 (by decide) (by decide), ej 230 (by decide) (by decide), ej 231 (by decide) (by decide), eo 232 (by decide), eo 201 (by decide), eo 206 (by decide)]
    refine ⟨?_, fun t y hy => (rd _ t y).mpr (w t y ((y' t y).mp hy))⟩
    have tj : I' (tX j) = I (tX j) := io _ (by unfold tX; omega)
    have t13 : I' (tX j + 13) = I (tX j + 13) := io _ (by unfold tX; omega)
    unfold PdE InH UpH at *
    rw [tj, t13, ej 227 (by decide) (by decide), ej 228 (by decide) (by decide), ej 229 (by decide) (by decide), ej 230 (by decide) (by decide), ej 231 (by decide) (by decide), eo 232 (by decide), eo 201 (by decide), eo 100 (by decide)]
    exact p
def rmG0 : Room := { frames := 10, cells := 0, slots := 0, locals := 300 }
theorem sp_F_active1 (hC : ClW K P) (hL : EnL K P I n lq lv mv) (hi : i < n) (h4 : I (tX i) 4 = 0) : Sp m_F_activeTransaction true rmG0 (ex K P J I (.inl (some (vR (some (tX i)))))) K P J I [vR (some 1000), vI (i : Int)] := by
  have hx := (hL.tx hi).k
  have spT : Sp m_F_transactionAt true rmE0 (ex K P J I (.inl (some (vR (some (tX i)))))) K P J I [vR (some 1000), vI (i : Int)] := by
    have := sp_F_transactionAt1 (J := J) hC hL (a := (i : Int)) ⟨by omega, by omega⟩
    rw [show ((i : Int)).toNat = i by omega] at this
    exact this
  refine Sp.ofV (by decide) (Or.inl rfl) rfl ?_
  refine VW.aload_n (pc' := 1) d_F_activeTransaction_0 rfl rfl ?_
  refine VW.iload_n (pc' := 2) d_F_activeTransaction_1 rfl rfl ?_
  refine VW.callVX (ci := 10) (T := T10) (N := 11) (pc' := 5) d_F_activeTransaction_2 rfl (spT) rfl mv_F_transactionAt.1 mv_F_transactionAt.2.1 rfl mv_F_transactionAt.2.2.1 mv_F_transactionAt.2.2.2 lk_F_194 rfl (by first | exact hC.k 0 rfl | exact hx) rfl rfl rfl (by decide) (by decide) (fun _ _ _ _ _ hz => by cases hz.1) (fun r _ _ _ _ hz => ?_)
  obtain ⟨z1, z2, z3, z4, z5⟩ := hz
  cases z1
  replace z2 := z2.symm; replace z3 := z3.symm; replace z4 := z4.symm; replace z5 := z5.symm
  subst z2; subst z3; subst z4; subst z5
  refine VW.astore_n (pc' := 6) d_F_activeTransaction_5 rfl rfl ?_
  refine VW.aload_n (pc' := 7) d_F_activeTransaction_6 rfl rfl ?_
  refine VW.gI (ci := 8) (T := T8) (N := 19) (k := 4) (k' := 4) (pc' := 10) d_F_activeTransaction_7 rfl lk_F_203 in8 rfl rfl rfl rfl (by first | exact hC.k 0 rfl | exact hx) (by first | exact h4 | rfl) ?_
  refine VW.if_ne (tgt := 17) (pc' := 13) d_F_activeTransaction_10 rfl rfl (fun c10 => ?_) (fun c10 => ?_)
  case refine_1 => exact absurd c10 (fun z => z rfl)
  refine VW.iconst (pc' := 14) d_F_activeTransaction_13 rfl (by decide) ?_
  refine VW.goto (pc' := 18) d_F_activeTransaction_14 rfl ?_
  refine VW.callSX (pc' := 21) d_F_activeTransaction_18 rfl (sp_F_demandState1 (by decide)) rfl ms_F_demandState.1 ms_F_demandState.2.1 rfl ms_F_demandState.2.2 lk_F_82 rfl rfl rfl (by decide) (by decide) (fun _ _ _ _ _ hz => by cases hz.1) (fun r _ _ _ _ hz => ?_)
  obtain ⟨z1, z2, z3, z4, z5⟩ := hz
  cases z1
  replace z2 := z2.symm; replace z3 := z3.symm; replace z4 := z4.symm; replace z5 := z5.symm
  subst z2; subst z3; subst z4; subst z5
  refine VW.aload_n (pc' := 22) d_F_activeTransaction_21 rfl rfl ?_
  exact VW.aret d_F_activeTransaction_22 rfl (by first | exact Or.inl ⟨_, rfl⟩ | exact Or.inr ⟨_, rfl⟩) (by decide) (by decide) ex_rf
theorem delete_ex {c v : Int} (hB : CB K P I n N g lq lv mv) (hE : ER I S n N g lv mv q) (hi : i < n) (h0 : S 221 i = 0) (ht : 0 ≤ t ∧ t < S 100 0) (hq : q + 4 ≤ 2048) (hZ : ZOK Z) (z : Z i (mAct0 (up2 S 229 i y) i 2 t)) (hc : ∀ j, j < n → I (tX j) 14 + 5 * mM S n + 5 ≤ 8190) (hX : 2100 ≤ X + pC g n lv mv ∧ 5306448 ≤ Y + pS g n lv mv) :
    SpE m_F_delete true ({ frames := 13, cells := X, slots := Y, locals := 560 } : Room) (RetE (fun T => T 222 i) (TryP (mAct0 (up2 S 229 i y) i 2 t) i) (fun j => I (tX j) 14 + 5 * mM S n + (if j = i then 5 else 0)) Z K P J I (mTry1 (mAct0 (up2 S 229 i y) i 2 t) i) n g lq lv mv (q + 4)) K P J I [vR (some 1000), vI (i : Int), vI t, vI y] := by
  have hC := hB.c
  have n60 := hB.e.2.1
  have x0 : 2000 ≤ tX i ∧ tX i + 128 ≤ 10000 ∧ tX i + 128 ≤ 2000 + 128 * n := by unfold tX; omega
  obtain ⟨hT, hNT, hN17⟩ := hB.t hi
  have hx := hT.k
  have hI : ∀ o k, ¬ (o = tX i ∧ 7 ≤ k ∧ k ≤ 11) → (up2 (up2 (up2 I (tX i) 7 2) (tX i) 8 t) (tX i) 9 y) o k = I o k := fun o k hk => by
    exact (if_neg (fun w => hk ⟨w.1, by omega⟩)).trans ((if_neg (fun w => hk ⟨w.1, by omega⟩)).trans (if_neg (fun w => hk ⟨w.1, by omega⟩)))
  have hS : ∀ o k, ¬ (227 ≤ o ∧ o ≤ 231 ∧ k = (i : Int)) → (mAct0 (up2 S 229 i y) i 2 t) o k = S o k := fun o k hk => by
    unfold mAct0
    exact (if_neg (fun w => hk ⟨by omega, by omega, w.2⟩)).trans ((if_neg (fun w => hk ⟨by omega, by omega, w.2⟩)).trans (if_neg (fun w => hk ⟨by omega, by omega, w.2⟩)))
  have e21 := hE.sch.1.1
  have tC : (0 ≤ t ∧ t < I 1032 0) := by rw [e21]; exact ht
  generalize hS1 : mAct0 (up2 S 229 i y) i 2 t = S1 at *
  have E1 := hE.plan hB.lev hB.g10 hi h0 hI hS
  have p1 : PdE (up2 (up2 (up2 I (tX i) 7 2) (tX i) 8 t) (tX i) 9 y) S1 i := by
    rw [← hS1]
    have a7 : mAct0 (up2 S 229 i y) i 2 t 227 i = 2 := (up2_o _ _ _ _ (by decide)).trans (up2_eq _ _ _ _)
    have a8 : mAct0 (up2 S 229 i y) i 2 t 228 i = t := up2_eq _ _ _ _
    have a9 : mAct0 (up2 S 229 i y) i 2 t 229 i = y := (up2_o _ _ _ _ (by decide)).trans ((up2_o _ _ _ _ (by decide)).trans (up2_eq _ _ _ _))
    have a0 : mAct0 (up2 S 229 i y) i 2 t 100 0 = S 100 0 := (up2_o _ _ _ _ (by decide)).trans ((up2_o _ _ _ _ (by decide)).trans (up2_o _ _ _ _ (by decide)))
    unfold PdE
    rw [a7, a8, a9, a0, up2_k _ _ _ _ (by decide), up2_k _ _ _ _ (by decide), up2_eq, up2_k _ _ _ _ (by decide), up2_eq, up2_eq]
    exact ⟨⟨rfl, rfl⟩, ht, fun w => absurd w (by decide), fun _ => rfl, fun w => absurd w (by decide)⟩
  generalize hI1 : up2 (up2 (up2 I (tX i) 7 2) (tX i) 8 t) (tX i) 9 y = I1 at *
  have io : ∀ o, o ≠ tX i → I1 o = I o := fun o ho => funext (fun k => hI o k (fun w => ho w.1))
  have so : ∀ o, (o < 227 ∨ 231 < o) → S1 o = S o := fun o ho => funext (fun k => hS o k (fun w => by omega))
  have LN : LgN I1 g N := by
    have := hB.l
    unfold LgN at *
    rw [io 1192 (by omega)]; exact this
  have NT : TxN I1 i (lv i) (mv i) := by
    have l15 := hB.lev i hi
    unfold TxN at *
    rw [hI _ 14 (fun w => by omega), hI _ 17 (fun w => by omega), hI _ 13 (fun w => by omega), io (tX i + 40 + lv i) (by omega), io (tX i + 80 + mv i) (by omega)]
    exact hNT
  have B1 : CB K P I1 n N g lq lv mv := hB.tr hi hC ⟨hB.v, LN⟩ ⟨hT, NT, by rw [hI _ 17 (fun w => by omega)]; exact hN17⟩ (fun _ _ => ⟨rfl, rfl⟩) (fun o a _ _ => ⟨rfl, rfl, io o (fun w => a (by unfold nTx; omega))⟩)
  have eM : mM S1 n = mM S n := by
    unfold mM opC fdC mFreed
    rw [so 221 (by decide), so 225 (by decide)]
  have e14 : ∀ j, I1 (tX j) 14 = I (tX j) 14 := fun j => hI _ 14 (fun w => by omega)
  have r1 := hE.rd.1 i hi
  have spS := settle_first (J := J) (X := X) (Y := Y) (q' := q + 4) B1 E1 hi (by rw [so 221 (by decide)]; exact h0) p1 ⟨by rw [so 233 (by decide)]; omega, by omega, hq⟩ hZ z (fun j hj => by rw [e14, eM]; exact hc j hj) hX
  rw [eM] at spS
  have h4 : I (tX i) 4 = 0 := (hE.tx i hi).1.2.2.2.1.trans h0
  have spA := sp_F_active1 (J := J) hC hB.e hi h4
  have spH : Sp m_Engine_hasTransaction false (rmv 1 20) (ex K P J I (.inl (some (vI 1)))) K P J I [vR (some 1064), vI (i : Int)] := by
    have := sp_Engine_hasTransaction (J := J) hC hB.e (a := (i : Int))
    rw [bI1 (show 0 ≤ (i : Int) ∧ (i : Int) < n by omega)] at this
    exact this
  have M0 := (mM_rg (S := S) (n := n)).2.2
  have spB : Sp m_Schema_hasTable false (rmv 0 0) (ex K P J I (.inl (some (vI 1)))) K P J I [vR (some 1032), vI t] := by
    have := sp_Schema_hasTable (J := J) (I := I) (a := t) hC.sc
    rw [bI1 tC] at this
    exact this
  have spP : Sp m_Transaction_planDelete false (rmv 0 0) (ex K P J I1 (.inl none)) K P J I [vR (some (tX i)), vI t, vI y] := by
    rw [← hI1]; exact sp_Transaction_planDelete hT.1
  refine SpE.ofV (by decide) (Or.inl rfl) rfl ?_
  refine VE.aload_n (pc' := 1) d_F_delete_0 rfl rfl ?_
  refine VE.gP (ci := 10) (T := T10) (N := 11) (k := 1) (k' := 1) (pc' := 4) d_F_delete_1 rfl lk_F_21 in10 rfl rfl rfl rfl (by first | exact hC.k 0 rfl | exact hC.k 9 rfl | exact hC.k 2 rfl | exact hx | exact hxF) (by first | exact hC.p 1 rfl | exact hC.p 0 rfl | exact fF | rfl) ?_
  refine VE.iload_n (pc' := 5) d_F_delete_4 rfl rfl ?_
  refine VE.cV (ci := 0) (T := T0) (N := 8) (pc' := 8) d_F_delete_5 rfl mv_Engine_hasTransaction lk_F_157 rfl (by first | exact hC.k 0 rfl | exact hC.k 9 rfl | exact hC.k 2 rfl | exact hx | exact hxF) rfl rfl rfl (by show 0 + 0 ≤ X; omega) (by show 0 + 0 ≤ Y; omega) (spH) rfl rfl ?_
  refine VE.if_eq (tgt := 26) (pc' := 11) d_F_delete_8 rfl rfl (fun c8 => ?_) (fun c8 => ?_)
  case refine_1 => exact absurd c8 (by decide)
  refine VE.aload_n (pc' := 12) d_F_delete_11 rfl rfl ?_
  refine VE.gP (ci := 10) (T := T10) (N := 11) (k := 0) (k' := 0) (pc' := 15) d_F_delete_12 rfl lk_F_12 in10 rfl rfl rfl rfl (by first | exact hC.k 0 rfl | exact hC.k 9 rfl | exact hC.k 2 rfl | exact hx | exact hxF) (by first | exact hC.p 1 rfl | exact hC.p 0 rfl | exact fF | rfl) ?_
  refine VE.iload_n (pc' := 16) d_F_delete_15 rfl rfl ?_
  refine VE.cV (ci := 7) (T := T7) (N := 8) (pc' := 19) d_F_delete_16 rfl mv_Schema_hasTable lk_F_123 rfl (by first | exact hC.k 0 rfl | exact hC.k 9 rfl | exact hC.k 2 rfl | exact hx | exact hxF) rfl rfl rfl (by show 0 + 0 + 0 ≤ X; omega) (by show 0 + 0 + 0 ≤ Y; omega) (spB) rfl rfl ?_
  refine VE.if_eq (tgt := 26) (pc' := 22) d_F_delete_19 rfl rfl (fun c19 => ?_) (fun c19 => ?_)
  case refine_1 => exact absurd c19 (by decide)
  refine VE.iconst (pc' := 23) d_F_delete_22 rfl (by decide) ?_
  refine VE.goto (pc' := 27) d_F_delete_23 rfl ?_
  refine VE.callSX (pc' := 30) d_F_delete_27 rfl (sp_F_demandPlace1 (by decide)) rfl ms_F_demandPlace.1 ms_F_demandPlace.2.1 rfl ms_F_demandPlace.2.2 lk_F_97 rfl rfl rfl (by show 0 + 0 + 0 + 0 ≤ X; omega) (by show 0 + 0 + 0 + 0 ≤ Y; omega) (fun _ _ _ _ _ hz => by cases hz.1) (fun r _ _ _ _ hz => ?_)
  obtain ⟨z1, z2, z3, z4, z5⟩ := hz
  cases z1
  replace z2 := z2.symm; replace z3 := z3.symm; replace z4 := z4.symm; replace z5 := z5.symm
  subst z2; subst z3; subst z4; subst z5
  refine VE.aload_n (pc' := 31) d_F_delete_30 rfl rfl ?_
  refine VE.iload_n (pc' := 32) d_F_delete_31 rfl rfl ?_
  refine VE.callVX (ci := 10) (T := T10) (N := 11) (pc' := 35) d_F_delete_32 rfl (spA) rfl mv_F_activeTransaction.1 mv_F_activeTransaction.2.1 rfl mv_F_activeTransaction.2.2.1 mv_F_activeTransaction.2.2.2 lk_F_160 rfl (by first | exact hC.k 0 rfl | exact hC.k 9 rfl | exact hC.k 2 rfl | exact hx | exact hxF) rfl rfl rfl (by show 0 + 0 + 0 + 0 + 0 ≤ X; omega) (by show 0 + 0 + 0 + 0 + 0 ≤ Y; omega) (fun _ _ _ _ _ hz => by cases hz.1) (fun r _ _ _ _ hz => ?_)
  obtain ⟨z1, z2, z3, z4, z5⟩ := hz
  cases z1
  replace z2 := z2.symm; replace z3 := z3.symm; replace z4 := z4.symm; replace z5 := z5.symm
  subst z2; subst z3; subst z4; subst z5
  refine VE.astore (pc' := 37) d_F_delete_35 rfl rfl ?_
  refine VE.aload (pc' := 39) d_F_delete_37 rfl rfl ?_
  refine VE.iload_n (pc' := 40) d_F_delete_39 rfl rfl ?_
  refine VE.iload_n (pc' := 41) d_F_delete_40 rfl rfl ?_
  refine VE.cV (ci := 8) (T := T8) (N := 19) (pc' := 44) d_F_delete_41 rfl mv_Transaction_planDelete lk_F_183 rfl (by first | exact hC.k 0 rfl | exact hC.k 9 rfl | exact hC.k 2 rfl | exact hx | exact hxF) rfl rfl rfl (by show 0 + 0 + 0 + 0 + 0 + 0 ≤ X; omega) (by show 0 + 0 + 0 + 0 + 0 + 0 ≤ Y; omega) (spP) rfl rfl ?_
  refine VE.aload_n (pc' := 45) d_F_delete_44 rfl rfl ?_
  refine VE.gP (ci := 10) (T := T10) (N := 11) (k := 1) (k' := 1) (pc' := 48) d_F_delete_45 rfl lk_F_21 in10 rfl rfl rfl rfl (by first | exact hC.k 0 rfl | exact hC.k 9 rfl | exact hC.k 2 rfl | exact hx | exact hxF) (by first | exact hC.p 1 rfl | exact hC.p 0 rfl | exact fF | rfl) ?_
  refine VE.aload (pc' := 50) d_F_delete_48 rfl rfl ?_
  refine VE.callVE (ci := 0) (T := T0) (N := 8) (pc' := 53) d_F_delete_50 rfl spS rfl mv_Engine_settle.1 mv_Engine_settle.2.1 rfl mv_Engine_settle.2.2.1 mv_Engine_settle.2.2.2 lk_F_173 rfl (by first | exact hC.k 0 rfl | exact hC.k 9 rfl | exact hC.k 2 rfl | exact hx | exact hxF) rfl rfl rfl (by show 0 + 0 + 0 + 0 + 0 + 0 + X ≤ X; omega) (by show 0 + 0 + 0 + 0 + 0 + 0 + Y ≤ Y; omega) (fun k9 n9 r K' P' J' I' hz => ?_)
  obtain ⟨z1, z2, zT, m', N', g', lv', mv', d1, d2, d3, d4, d5, d6, d7⟩ := hz
  cases z1
  replace z2 := z2.symm
  subst z2
  have M9 := (mM_rg (S := mSettle m' (mTry1 S1 i)) (n := n)).2.2
  have p9 := d1.pot (fun j hj => by
    have a : I' (tX j) 14 + 5 * mM (mSettle m' (mTry1 S1 i)) n ≤ I1 (tX j) 14 + 5 * mM S n + (if j = i then 5 else 0) := d6 j hj
    have b := hc j hj
    rw [e14] at a
    split at a <;> omega)
  have hxF : K' (tX i) = some (8, 0) := (d1.t hi).1.k
  have fF : I' (tX i) 5 = mSettle m' (mTry1 S1 i) 222 i := (d2.tx i hi).1.2.2.2.2.1
  have fin : RetE (fun T => T 222 i) (TryP S1 i) (fun j => I (tX j) 14 + 5 * mM S n + (if j = i then 5 else 0)) Z K P J I (mTry1 S1 i) n g lq lv mv (q + 4) (.inl (some (vI (mSettle m' (mTry1 S1 i) 222 i)))) K' P' J I' k9 n9 := ⟨rfl, zT, m', N', g', lv', mv', rfl, d1, d2, d3, d4, d5, fun j hj => by
    have a : I' (tX j) 14 + 5 * mM (mSettle m' (mTry1 S1 i)) n ≤ I1 (tX j) 14 + 5 * mM S n + (if j = i then 5 else 0) := d6 j hj
    rw [e14] at a
    exact a, fun o ho => ⟨(d7 o ho).1, (d7 o ho).2.1, (d7 o ho).2.2.trans (io o (fun w => ho (by unfold nEn; omega)))⟩⟩
  refine VE.aload (pc' := 55) d_F_delete_53 rfl rfl ?_
  refine VE.gI (ci := 8) (T := T8) (N := 19) (k := 5) (k' := 5) (pc' := 58) d_F_delete_55 rfl lk_F_177 in8 rfl rfl rfl rfl (by first | exact hC.k 0 rfl | exact hC.k 9 rfl | exact hC.k 2 rfl | exact hx | exact hxF) (by first | exact hC.p 1 rfl | exact hC.p 0 rfl | exact fF | rfl) ?_
  exact VE.iret d_F_delete_58 rfl rfl (by show 0 + 0 + 0 + 0 + 0 + 0 + k9 ≤ X; omega) (by show 0 + 0 + 0 + 0 + 0 + 0 + n9 ≤ Y; omega) (by have := fin; rw [← Nat.zero_add k9, ← Nat.zero_add n9] at this; exact this)
end
