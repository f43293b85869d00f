/-! RowForge.update, where it may be called -/
section
variable {K : KT} {P : PT} {J I I' S S' : IT} {n N g lq i : Nat} {lv mv : Nat → Nat} {q t y : Int} {Z : Int → IT → Prop} {X Y : Nat}
theorem update_run {c v : Int} (hB : CB K P I n N g lq lv mv) (hE : ER I S n N g lv mv q) (hi : i < n) (h0 : S 221 i = 0) (ht : 0 ≤ t ∧ t < S 100 0) (hcv : 0 < c ∧ c < S 201 t) (hv : okV v) (hq : q + 4 ≤ 2048) (hZ : ZOK Z) (z : Z i (mAct0 (up2 (up2 (up2 S 229 i y) 230 i c) 231 i v) i 1 t)) (hc : ∀ j, j < n → I (tX j) 14 + 5 * mM S n + 5 ≤ 8190) (hX : 2100 ≤ X + pC g n lv mv ∧ 5306448 ≤ Y + pS g n lv mv) :
    SpE m_F_update true ({ frames := 13, cells := X, slots := Y, locals := 560 } : Room) (RetE (fun T => T 222 i) (TryP (mAct0 (up2 (up2 (up2 S 229 i y) 230 i c) 231 i v) i 1 t) i) (fun j => I (tX j) 14 + 5 * mM S n + (if j = i then 5 else 0)) Z K P J I (mTry1 (mAct0 (up2 (up2 (up2 S 229 i y) 230 i c) 231 i v) i 1 t) i) n g lq lv mv (q + 4)) K P J I [vR (some 1000), vI (i : Int), vI t, vI y, vI c, vI v] := by
  have hC := hB.c
  have n60 := hB.e.2.1
  have x0 : 2000 ≤ tX i ∧ tX i + 128 ≤ 10000 ∧ tX i + 128 ≤ 2000 + 128 * n := by unfold tX; omega
  obtain ⟨hT, hNT, hN17⟩ := hB.t hi
  have hx := hT.k
  have hI : ∀ o k, ¬ (o = tX i ∧ 7 ≤ k ∧ k ≤ 11) → (up2 (up2 (up2 (up2 (up2 I (tX i) 7 1) (tX i) 8 t) (tX i) 9 y) (tX i) 10 c) (tX i) 11 v) o k = I o k := fun o k hk => by
    exact (if_neg (fun w => hk ⟨w.1, by omega⟩)).trans ((if_neg (fun w => hk ⟨w.1, by omega⟩)).trans ((if_neg (fun w => hk ⟨w.1, by omega⟩)).trans ((if_neg (fun w => hk ⟨w.1, by omega⟩)).trans (if_neg (fun w => hk ⟨w.1, by omega⟩)))))
  have hS : ∀ o k, ¬ (227 ≤ o ∧ o ≤ 231 ∧ k = (i : Int)) → (mAct0 (up2 (up2 (up2 S 229 i y) 230 i c) 231 i v) i 1 t) o k = S o k := fun o k hk => by
    unfold mAct0
    exact (if_neg (fun w => hk ⟨by omega, by omega, w.2⟩)).trans ((if_neg (fun w => hk ⟨by omega, by omega, w.2⟩)).trans ((if_neg (fun w => hk ⟨by omega, by omega, w.2⟩)).trans ((if_neg (fun w => hk ⟨by omega, by omega, w.2⟩)).trans (if_neg (fun w => hk ⟨by omega, by omega, w.2⟩)))))
  have e21 := hE.sch.1.1
  have tC : (0 ≤ t ∧ t < I 1032 0) := by rw [e21]; exact ht
  have s34 : I 1034 t = S 201 t := (hE.sch.1.2.1 t ht.1 (by have := hE.sch.2.1; omega)).1
  have sch6 := hE.sch.2.1
  generalize hS1 : mAct0 (up2 (up2 (up2 S 229 i y) 230 i c) 231 i v) i 1 t = S1 at *
  have E1 := hE.plan hB.lev hB.g10 hi h0 hI hS
  have p1 : PdE (up2 (up2 (up2 (up2 (up2 I (tX i) 7 1) (tX i) 8 t) (tX i) 9 y) (tX i) 10 c) (tX i) 11 v) S1 i := by
    rw [← hS1]
    have a7 : mAct0 (up2 (up2 (up2 S 229 i y) 230 i c) 231 i v) i 1 t 227 i = 1 := (up2_o _ _ _ _ (by decide)).trans (up2_eq _ _ _ _)
    have a8 : mAct0 (up2 (up2 (up2 S 229 i y) 230 i c) 231 i v) i 1 t 228 i = t := up2_eq _ _ _ _
    have a9 : mAct0 (up2 (up2 (up2 S 229 i y) 230 i c) 231 i v) i 1 t 229 i = y := (up2_o _ _ _ _ (by decide)).trans ((up2_o _ _ _ _ (by decide)).trans ((up2_o _ _ _ _ (by decide)).trans ((up2_o _ _ _ _ (by decide)).trans (up2_eq _ _ _ _))))
    have a10 : mAct0 (up2 (up2 (up2 S 229 i y) 230 i c) 231 i v) i 1 t 230 i = c := (up2_o _ _ _ _ (by decide)).trans ((up2_o _ _ _ _ (by decide)).trans ((up2_o _ _ _ _ (by decide)).trans (up2_eq _ _ _ _)))
    have a11 : mAct0 (up2 (up2 (up2 S 229 i y) 230 i c) 231 i v) i 1 t 231 i = v := (up2_o _ _ _ _ (by decide)).trans ((up2_o _ _ _ _ (by decide)).trans (up2_eq _ _ _ _))
    have a0 : mAct0 (up2 (up2 (up2 S 229 i y) 230 i c) 231 i v) i 1 t 100 0 = S 100 0 := (up2_o _ _ _ _ (by decide)).trans ((up2_o _ _ _ _ (by decide)).trans ((up2_o _ _ _ _ (by decide)).trans ((up2_o _ _ _ _ (by decide)).trans (up2_o _ _ _ _ (by decide)))))
    have a1 : mAct0 (up2 (up2 (up2 S 229 i y) 230 i c) 231 i v) i 1 t 201 t = S 201 t := (up2_o _ _ _ _ (by decide)).trans ((up2_o _ _ _ _ (by decide)).trans ((up2_o _ _ _ _ (by decide)).trans ((up2_o _ _ _ _ (by decide)).trans (up2_o _ _ _ _ (by decide)))))
    unfold PdE UpH
    rw [a7, a8, a9, a10, a11, a0, a1, up2_eq, up2_k _ _ _ _ (show (7 : Int) ≠ 11 by decide), up2_k _ _ _ _ (show (8 : Int) ≠ 11 by decide), up2_k _ _ _ _ (show (9 : Int) ≠ 11 by decide), up2_k _ _ _ _ (show (10 : Int) ≠ 11 by decide), up2_eq, up2_k _ _ _ _ (show (7 : Int) ≠ 10 by decide), up2_k _ _ _ _ (show (8 : Int) ≠ 10 by decide), up2_k _ _ _ _ (show (9 : Int) ≠ 10 by decide), up2_eq, up2_k _ _ _ _ (show (7 : Int) ≠ 9 by decide), up2_k _ _ _ _ (show (8 : Int) ≠ 9 by decide), up2_eq, up2_k _ _ _ _ (show (7 : Int) ≠ 8 by decide), up2_eq]
    exact ⟨⟨rfl, rfl⟩, ht, fun w => absurd w (by decide), fun _ => rfl, fun _ => ⟨⟨rfl, rfl, rfl⟩, ⟨by omega, hcv.2⟩, hv⟩⟩
  generalize hI1 : up2 (up2 (up2 (up2 (up2 I (tX i) 7 1) (tX i) 8 t) (tX i) 9 y) (tX i) 10 c) (tX i) 11 v = I1 at *
  have io : ∀ o, o ≠ tX i → I1 o = I o := fun o ho => funext (fun k => hI o k (fun w => ho w.1))
  have so : ∀ o, (o < 227 ∨ 231 < o) → S1 o = S o := fun o ho => funext (fun k => hS o k (fun w => by omega))
  have LN : LgN I1 g N := by
    have := hB.l
    unfold LgN at *
    rw [io 1192 (by omega)]; exact this
  have NT : TxN I1 i (lv i) (mv i) := by
    have l15 := hB.lev i hi
    unfold TxN at *
    rw [hI _ 14 (fun w => by omega), hI _ 17 (fun w => by omega), hI _ 13 (fun w => by omega), io (tX i + 40 + lv i) (by omega), io (tX i + 80 + mv i) (by omega)]
    exact hNT
  have B1 : CB K P I1 n N g lq lv mv := hB.tr hi hC ⟨hB.v, LN⟩ ⟨hT, NT, by rw [hI _ 17 (fun w => by omega)]; exact hN17⟩ (fun _ _ => ⟨rfl, rfl⟩) (fun o a _ _ => ⟨rfl, rfl, io o (fun w => a (by unfold nTx; omega))⟩)
  have eM : mM S1 n = mM S n := by
    unfold mM opC fdC mFreed
    rw [so 221 (by decide), so 225 (by decide)]
  have e14 : ∀ j, I1 (tX j) 14 = I (tX j) 14 := fun j => hI _ 14 (fun w => by omega)
  have r1 := hE.rd.1 i hi
  have spS := settle_first (J := J) (X := X) (Y := Y) (q' := q + 4) B1 E1 hi (by rw [so 221 (by decide)]; exact h0) p1 ⟨by rw [so 233 (by decide)]; omega, by omega, hq⟩ hZ z (fun j hj => by rw [e14, eM]; exact hc j hj) hX
  rw [eM] at spS
  have h4 : I (tX i) 4 = 0 := (hE.tx i hi).1.2.2.2.1.trans h0
  have spA := sp_F_active1 (J := J) hC hB.e hi h4
  have spH : Sp m_Engine_hasTransaction false (rmv 1 20) (ex K P J I (.inl (some (vI 1)))) K P J I [vR (some 1064), vI (i : Int)] := by
    have := sp_Engine_hasTransaction (J := J) hC hB.e (a := (i : Int))
    rw [bI1 (show 0 ≤ (i : Int) ∧ (i : Int) < n by omega)] at this
    exact this
  have M0 := (mM_rg (S := S) (n := n)).2.2
  have spB : Sp m_Schema_hasColumn false (rmv 1 21) (ex K P J I (.inl (some (vI 1)))) K P J I [vR (some 1032), vI t, vI c] := by
    have := sp_Schema_hasColumn (J := J) (I := I) (a := t) (b := c) hC.sc (by rw [e21]; omega)
    rw [bI1 (show (0 ≤ t ∧ t < I 1032 0) ∧ 0 ≤ c ∧ c < I 1034 t from ⟨tC, by omega, by rw [s34]; exact hcv.2⟩)] at this
    exact this
  have spP : Sp m_Transaction_planUpdate false (rmv 0 0) (ex K P J I1 (.inl none)) K P J I [vR (some (tX i)), vI t, vI y, vI c, vI v] := by
    rw [← hI1]; exact sp_Transaction_planUpdate hT.1
  refine SpE.ofV (by decide) (Or.inl rfl) rfl ?_
  refine VE.aload_n (pc' := 1) d_F_update_0 rfl rfl ?_
  refine VE.gP (ci := 10) (T := T10) (N := 11) (k := 1) (k' := 1) (pc' := 4) d_F_update_1 rfl lk_F_21 in10 rfl rfl rfl rfl (by first | exact hC.k 0 rfl | exact hC.k 9 rfl | exact hC.k 2 rfl | exact hx | exact hxF) (by first | exact hC.p 1 rfl | exact hC.p 0 rfl | exact fF | rfl) ?_
  refine VE.iload_n (pc' := 5) d_F_update_4 rfl rfl ?_
  refine VE.cV (ci := 0) (T := T0) (N := 8) (pc' := 8) d_F_update_5 rfl mv_Engine_hasTransaction lk_F_157 rfl (by first | exact hC.k 0 rfl | exact hC.k 9 rfl | exact hC.k 2 rfl | exact hx | exact hxF) rfl rfl rfl (by show 0 + 0 ≤ X; omega) (by show 0 + 0 ≤ Y; omega) (spH) rfl rfl ?_
  refine VE.if_eq (tgt := 33) (pc' := 11) d_F_update_8 rfl rfl (fun c8 => ?_) (fun c8 => ?_)
  case refine_1 => exact absurd c8 (by decide)
  refine VE.aload_n (pc' := 12) d_F_update_11 rfl rfl ?_
  refine VE.gP (ci := 10) (T := T10) (N := 11) (k := 0) (k' := 0) (pc' := 15) d_F_update_12 rfl lk_F_12 in10 rfl rfl rfl rfl (by first | exact hC.k 0 rfl | exact hC.k 9 rfl | exact hC.k 2 rfl | exact hx | exact hxF) (by first | exact hC.p 1 rfl | exact hC.p 0 rfl | exact fF | rfl) ?_
  refine VE.iload_n (pc' := 16) d_F_update_15 rfl rfl ?_
  refine VE.iload (pc' := 18) d_F_update_16 rfl rfl ?_
  refine VE.cV (ci := 7) (T := T7) (N := 8) (pc' := 21) d_F_update_18 rfl mv_Schema_hasColumn lk_F_93 rfl (by first | exact hC.k 0 rfl | exact hC.k 9 rfl | exact hC.k 2 rfl | exact hx | exact hxF) rfl rfl rfl (by show 0 + 0 + 0 ≤ X; omega) (by show 0 + 0 + 0 ≤ Y; omega) (spB) rfl rfl ?_
  refine VE.if_eq (tgt := 33) (pc' := 24) d_F_update_21 rfl rfl (fun c21 => ?_) (fun c21 => ?_)
  case refine_1 => exact absurd c21 (by decide)
  refine VE.iload (pc' := 26) d_F_update_24 rfl rfl ?_
  refine VE.if_eq (tgt := 33) (pc' := 29) d_F_update_26 rfl rfl (fun c26 => ?_) (fun c26 => ?_)
  case refine_1 => exact absurd c26 (by omega)
  refine VE.iconst (pc' := 30) d_F_update_29 rfl (by decide) ?_
  refine VE.goto (pc' := 34) d_F_update_30 rfl ?_
  refine VE.callSX (pc' := 37) d_F_update_34 rfl (sp_F_demandPlace1 (by decide)) rfl ms_F_demandPlace.1 ms_F_demandPlace.2.1 rfl ms_F_demandPlace.2.2 lk_F_97 rfl rfl rfl (by show 0 + 0 + 0 + 0 ≤ X; omega) (by show 0 + 0 + 0 + 0 ≤ Y; omega) (fun _ _ _ _ _ hz => by cases hz.1) (fun r _ _ _ _ hz => ?_)
  obtain ⟨z1, z2, z3, z4, z5⟩ := hz
  cases z1
  replace z2 := z2.symm; replace z3 := z3.symm; replace z4 := z4.symm; replace z5 := z5.symm
  subst z2; subst z3; subst z4; subst z5
  refine VE.iload (pc' := 39) d_F_update_37 rfl rfl ?_
  refine VE.cS (pc' := 42) d_F_update_39 rfl ms_F_isNumber lk_F_104 rfl rfl rfl (by show 0 + 0 + 0 + 0 + 0 ≤ X; omega) (by show 0 + 0 + 0 + 0 + 0 ≤ Y; omega) (sp_F_isNumber) rfl rfl ?_
  refine VE.if_ne (tgt := 52) (pc' := 45) d_F_update_42 rfl rfl (fun c42 => ?_) (fun c42 => ?_)
  · try have e42 := bIn c42
    refine VE.iconst (pc' := 53) d_F_update_52 rfl (by decide) ?_
    refine VE.goto (pc' := 57) d_F_update_53 rfl ?_
    refine VE.callSX (pc' := 60) d_F_update_57 rfl (sp_F_demandRange1 (by decide)) rfl ms_F_demandRange.1 ms_F_demandRange.2.1 rfl ms_F_demandRange.2.2 lk_F_70 rfl rfl rfl (by show 0 + 0 + 0 + 0 + 0 + 0 ≤ X; omega) (by show 0 + 0 + 0 + 0 + 0 + 0 ≤ Y; omega) (fun _ _ _ _ _ hz => by cases hz.1) (fun r _ _ _ _ hz => ?_)
    obtain ⟨z1, z2, z3, z4, z5⟩ := hz
    cases z1
    replace z2 := z2.symm; replace z3 := z3.symm; replace z4 := z4.symm; replace z5 := z5.symm
    subst z2; subst z3; subst z4; subst z5
    refine VE.aload_n (pc' := 61) d_F_update_60 rfl rfl ?_
    refine VE.iload_n (pc' := 62) d_F_update_61 rfl rfl ?_
    refine VE.callVX (ci := 10) (T := T10) (N := 11) (pc' := 65) d_F_update_62 rfl (spA) rfl mv_F_activeTransaction.1 mv_F_activeTransaction.2.1 rfl mv_F_activeTransaction.2.2.1 mv_F_activeTransaction.2.2.2 lk_F_160 rfl (by first | exact hC.k 0 rfl | exact hC.k 9 rfl | exact hC.k 2 rfl | exact hx | exact hxF) rfl rfl rfl (by show 0 + 0 + 0 + 0 + 0 + 0 + 0 ≤ X; omega) (by show 0 + 0 + 0 + 0 + 0 + 0 + 0 ≤ Y; omega) (fun _ _ _ _ _ hz => by cases hz.1) (fun r _ _ _ _ hz => ?_)
    obtain ⟨z1, z2, z3, z4, z5⟩ := hz
    cases z1
    replace z2 := z2.symm; replace z3 := z3.symm; replace z4 := z4.symm; replace z5 := z5.symm
    subst z2; subst z3; subst z4; subst z5
    refine VE.astore (pc' := 67) d_F_update_65 rfl rfl ?_
    refine VE.aload (pc' := 69) d_F_update_67 rfl rfl ?_
    refine VE.iload_n (pc' := 70) d_F_update_69 rfl rfl ?_
    refine VE.iload_n (pc' := 71) d_F_update_70 rfl rfl ?_
    refine VE.iload (pc' := 73) d_F_update_71 rfl rfl ?_
    refine VE.iload (pc' := 75) d_F_update_73 rfl rfl ?_
    refine VE.cV (ci := 8) (T := T8) (N := 19) (pc' := 78) d_F_update_75 rfl mv_Transaction_planUpdate lk_F_180 rfl (by first | exact hC.k 0 rfl | exact hC.k 9 rfl | exact hC.k 2 rfl | exact hx | exact hxF) rfl rfl rfl (by show 0 + 0 + 0 + 0 + 0 + 0 + 0 + 0 ≤ X; omega) (by show 0 + 0 + 0 + 0 + 0 + 0 + 0 + 0 ≤ Y; omega) (spP) rfl rfl ?_
    refine VE.aload_n (pc' := 79) d_F_update_78 rfl rfl ?_
    refine VE.gP (ci := 10) (T := T10) (N := 11) (k := 1) (k' := 1) (pc' := 82) d_F_update_79 rfl lk_F_21 in10 rfl rfl rfl rfl (by first | exact hC.k 0 rfl | exact hC.k 9 rfl | exact hC.k 2 rfl | exact hx | exact hxF) (by first | exact hC.p 1 rfl | exact hC.p 0 rfl | exact fF | rfl) ?_
    refine VE.aload (pc' := 84) d_F_update_82 rfl rfl ?_
    refine VE.callVE (ci := 0) (T := T0) (N := 8) (pc' := 87) d_F_update_84 rfl spS rfl mv_Engine_settle.1 mv_Engine_settle.2.1 rfl mv_Engine_settle.2.2.1 mv_Engine_settle.2.2.2 lk_F_173 rfl (by first | exact hC.k 0 rfl | exact hC.k 9 rfl | exact hC.k 2 rfl | exact hx | exact hxF) rfl rfl rfl (by show 0 + 0 + 0 + 0 + 0 + 0 + 0 + 0 + X ≤ X; omega) (by show 0 + 0 + 0 + 0 + 0 + 0 + 0 + 0 + Y ≤ Y; omega) (fun k9 n9 r K' P' J' I' hz => ?_)
    obtain ⟨z1, z2, zT, m', N', g', lv', mv', d1, d2, d3, d4, d5, d6, d7⟩ := hz
    cases z1
    replace z2 := z2.symm
    subst z2
    have M9 := (mM_rg (S := mSettle m' (mTry1 S1 i)) (n := n)).2.2
    have p9 := d1.pot (fun j hj => by
      have a : I' (tX j) 14 + 5 * mM (mSettle m' (mTry1 S1 i)) n ≤ I1 (tX j) 14 + 5 * mM S n + (if j = i then 5 else 0) := d6 j hj
      have b := hc j hj
      rw [e14] at a
      split at a <;> omega)
    have hxF : K' (tX i) = some (8, 0) := (d1.t hi).1.k
    have fF : I' (tX i) 5 = mSettle m' (mTry1 S1 i) 222 i := (d2.tx i hi).1.2.2.2.2.1
    have fin : RetE (fun T => T 222 i) (TryP S1 i) (fun j => I (tX j) 14 + 5 * mM S n + (if j = i then 5 else 0)) Z K P J I (mTry1 S1 i) n g lq lv mv (q + 4) (.inl (some (vI (mSettle m' (mTry1 S1 i) 222 i)))) K' P' J I' k9 n9 := ⟨rfl, zT, m', N', g', lv', mv', rfl, d1, d2, d3, d4, d5, fun j hj => by
      have a : I' (tX j) 14 + 5 * mM (mSettle m' (mTry1 S1 i)) n ≤ I1 (tX j) 14 + 5 * mM S n + (if j = i then 5 else 0) := d6 j hj
      rw [e14] at a
      exact a, fun o ho => ⟨(d7 o ho).1, (d7 o ho).2.1, (d7 o ho).2.2.trans (io o (fun w => ho (by unfold nEn; omega)))⟩⟩
    refine VE.aload (pc' := 89) d_F_update_87 rfl rfl ?_
    refine VE.gI (ci := 8) (T := T8) (N := 19) (k := 5) (k' := 5) (pc' := 92) d_F_update_89 rfl lk_F_177 in8 rfl rfl rfl rfl (by first | exact hC.k 0 rfl | exact hC.k 9 rfl | exact hC.k 2 rfl | exact hx | exact hxF) (by first | exact hC.p 1 rfl | exact hC.p 0 rfl | exact fF | rfl) ?_
    exact VE.iret d_F_update_92 rfl rfl (by show 0 + 0 + 0 + 0 + 0 + 0 + 0 + 0 + k9 ≤ X; omega) (by show 0 + 0 + 0 + 0 + 0 + 0 + 0 + 0 + n9 ≤ Y; omega) (by have := fin; rw [← Nat.zero_add k9, ← Nat.zero_add n9] at this; exact this)
  · try have e42 := bIe c42
    refine VE.iload (pc' := 47) d_F_update_45 rfl rfl ?_
    refine VE.ldc (pc' := 49) (z := -2147483648) d_F_update_47 rfl lk_F_153 (by decide) (by decide) ?_
    refine VE.icmp_ne (tgt := 56) (pc' := 52) d_F_update_49 rfl rfl (fun c49 => ?_) (fun c49 => ?_)
    case refine_1 => exact absurd c49 (fun w => w (hv.resolve_right e42))
    refine VE.iconst (pc' := 53) d_F_update_52 rfl (by decide) ?_
    refine VE.goto (pc' := 57) d_F_update_53 rfl ?_
    refine VE.callSX (pc' := 60) d_F_update_57 rfl (sp_F_demandRange1 (by decide)) rfl ms_F_demandRange.1 ms_F_demandRange.2.1 rfl ms_F_demandRange.2.2 lk_F_70 rfl rfl rfl (by show 0 + 0 + 0 + 0 + 0 + 0 ≤ X; omega) (by show 0 + 0 + 0 + 0 + 0 + 0 ≤ Y; omega) (fun _ _ _ _ _ hz => by cases hz.1) (fun r _ _ _ _ hz => ?_)
    obtain ⟨z1, z2, z3, z4, z5⟩ := hz
    cases z1
    replace z2 := z2.symm; replace z3 := z3.symm; replace z4 := z4.symm; replace z5 := z5.symm
    subst z2; subst z3; subst z4; subst z5
    refine VE.aload_n (pc' := 61) d_F_update_60 rfl rfl ?_
    refine VE.iload_n (pc' := 62) d_F_update_61 rfl rfl ?_
    refine VE.callVX (ci := 10) (T := T10) (N := 11) (pc' := 65) d_F_update_62 rfl (spA) rfl mv_F_activeTransaction.1 mv_F_activeTransaction.2.1 rfl mv_F_activeTransaction.2.2.1 mv_F_activeTransaction.2.2.2 lk_F_160 rfl (by first | exact hC.k 0 rfl | exact hC.k 9 rfl | exact hC.k 2 rfl | exact hx | exact hxF) rfl rfl rfl (by show 0 + 0 + 0 + 0 + 0 + 0 + 0 ≤ X; omega) (by show 0 + 0 + 0 + 0 + 0 + 0 + 0 ≤ Y; omega) (fun _ _ _ _ _ hz => by cases hz.1) (fun r _ _ _ _ hz => ?_)
    obtain ⟨z1, z2, z3, z4, z5⟩ := hz
    cases z1
    replace z2 := z2.symm; replace z3 := z3.symm; replace z4 := z4.symm; replace z5 := z5.symm
    subst z2; subst z3; subst z4; subst z5
    refine VE.astore (pc' := 67) d_F_update_65 rfl rfl ?_
    refine VE.aload (pc' := 69) d_F_update_67 rfl rfl ?_
    refine VE.iload_n (pc' := 70) d_F_update_69 rfl rfl ?_
    refine VE.iload_n (pc' := 71) d_F_update_70 rfl rfl ?_
    refine VE.iload (pc' := 73) d_F_update_71 rfl rfl ?_
    refine VE.iload (pc' := 75) d_F_update_73 rfl rfl ?_
    refine VE.cV (ci := 8) (T := T8) (N := 19) (pc' := 78) d_F_update_75 rfl mv_Transaction_planUpdate lk_F_180 rfl (by first | exact hC.k 0 rfl | exact hC.k 9 rfl | exact hC.k 2 rfl | exact hx | exact hxF) rfl rfl rfl (by show 0 + 0 + 0 + 0 + 0 + 0 + 0 + 0 ≤ X; omega) (by show 0 + 0 + 0 + 0 + 0 + 0 + 0 + 0 ≤ Y; omega) (spP) rfl rfl ?_
    refine VE.aload_n (pc' := 79) d_F_update_78 rfl rfl ?_
    refine VE.gP (ci := 10) (T := T10) (N := 11) (k := 1) (k' := 1) (pc' := 82) d_F_update_79 rfl lk_F_21 in10 rfl rfl rfl rfl (by first | exact hC.k 0 rfl | exact hC.k 9 rfl | exact hC.k 2 rfl | exact hx | exact hxF) (by first | exact hC.p 1 rfl | exact hC.p 0 rfl | exact fF | rfl) ?_
    refine VE.aload (pc' := 84) d_F_update_82 rfl rfl ?_
    refine VE.callVE (ci := 0) (T := T0) (N := 8) (pc' := 87) d_F_update_84 rfl spS rfl mv_Engine_settle.1 mv_Engine_settle.2.1 rfl mv_Engine_settle.2.2.1 mv_Engine_settle.2.2.2 lk_F_173 rfl (by first | exact hC.k 0 rfl | exact hC.k 9 rfl | exact hC.k 2 rfl | exact hx | exact hxF) rfl rfl rfl (by show 0 + 0 + 0 + 0 + 0 + 0 + 0 + 0 + X ≤ X; omega) (by show 0 + 0 + 0 + 0 + 0 + 0 + 0 + 0 + Y ≤ Y; omega) (fun k9 n9 r K' P' J' I' hz => ?_)
    obtain ⟨z1, z2, zT, m', N', g', lv', mv', d1, d2, d3, d4, d5, d6, d7⟩ := hz
    cases z1
    replace z2 := z2.symm
    subst z2
    have M9 := (mM_rg (S := mSettle m' (mTry1 S1 i)) (n := n)).2.2
    have p9 := d1.pot (fun j hj => by
      have a : I' (tX j) 14 + 5 * mM (mSettle m' (mTry1 S1 i)) n ≤ I1 (tX j) 14 + 5 * mM S n + (if j = i then 5 else 0) := d6 j hj
      have b := hc j hj
      rw [e14] at a
      split at a <;> omega)
    have hxF : K' (tX i) = some (8, 0) := (d1.t hi).1.k
    have fF : I' (tX i) 5 = mSettle m' (mTry1 S1 i) 222 i := (d2.tx i hi).1.2.2.2.2.1
    have fin : RetE (fun T => T 222 i) (TryP S1 i) (fun j => I (tX j) 14 + 5 * mM S n + (if j = i then 5 else 0)) Z K P J I (mTry1 S1 i) n g lq lv mv (q + 4) (.inl (some (vI (mSettle m' (mTry1 S1 i) 222 i)))) K' P' J I' k9 n9 := ⟨rfl, zT, m', N', g', lv', mv', rfl, d1, d2, d3, d4, d5, fun j hj => by
      have a : I' (tX j) 14 + 5 * mM (mSettle m' (mTry1 S1 i)) n ≤ I1 (tX j) 14 + 5 * mM S n + (if j = i then 5 else 0) := d6 j hj
      rw [e14] at a
      exact a, fun o ho => ⟨(d7 o ho).1, (d7 o ho).2.1, (d7 o ho).2.2.trans (io o (fun w => ho (by unfold nEn; omega)))⟩⟩
    refine VE.aload (pc' := 89) d_F_update_87 rfl rfl ?_
    refine VE.gI (ci := 8) (T := T8) (N := 19) (k := 5) (k' := 5) (pc' := 92) d_F_update_89 rfl lk_F_177 in8 rfl rfl rfl rfl (by first | exact hC.k 0 rfl | exact hC.k 9 rfl | exact hC.k 2 rfl | exact hx | exact hxF) (by first | exact hC.p 1 rfl | exact hC.p 0 rfl | exact fF | rfl) ?_
    exact VE.iret d_F_update_92 rfl rfl (by show 0 + 0 + 0 + 0 + 0 + 0 + 0 + 0 + k9 ≤ X; omega) (by show 0 + 0 + 0 + 0 + 0 + 0 + 0 + 0 + n9 ≤ Y; omega) (by have := fin; rw [← Nat.zero_add k9, ← Nat.zero_add n9] at this; exact this)
end
