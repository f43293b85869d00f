/-! RowForge.insert, where it may be called -/
section
variable {K : KT} {P : PT} {J I S : IT} {n N g lq i : Nat} {lv mv : Nat → Nat} {q t : Int} {Z : Int → IT → Prop} {X Y : Nat}
/-- what is drafted -/
def DrE (I S : IT) : Prop := I 1000 9 = S 100 37 ∧ ∀ c, 0 ≤ c → c < S 100 37 → I 1009 c = S 238 c ∧ okV (S 238 c)
theorem insert_run (hB : CB K P I n N g lq lv mv) (hE : ER I S n N g lv mv q) (hi : i < n) (h0 : S 221 i = 0) (ht : 0 ≤ t ∧ t < S 100 0) (hd : DrE I S) (h37 : S 100 37 = S 201 t) (hq : q + 4 ≤ 2048) (hZ : ZOK Z) (z : Z i (mAct0 (mInX S i) i 0 t)) (hc : ∀ j, j < n → I (tX j) 14 + 5 * mM S n + 5 ≤ 8190) (hX : 2100 ≤ X + pC g n lv mv ∧ 5306448 ≤ Y + pS g n lv mv) :
    SpE m_F_insert true ({ frames := 13, cells := X, slots := Y, locals := 560 } : Room) (RetE (fun T => T 222 i) (TryP (mAct0 (mInX S i) i 0 t) i) (fun j => I (tX j) 14 + 5 * mM S n + (if j = i then 5 else 0)) Z K P J (up2 I 1000 9 0) (mTry1 (mAct0 (mInX S i) i 0 t) i) n g lq lv mv (q + 4)) K P J I [vR (some 1000), vI (i : Int), vI t] := by
  have hC := hB.c
  have n60 := hB.e.2.1
  have x0 : 2000 ≤ tX i ∧ tX i + 128 ≤ 10000 ∧ tX i + 128 ≤ 2000 + 128 * n := by unfold tX; omega
  obtain ⟨hT, hNT, hN17⟩ := hB.t hi
  have hx := hT.k
  have s6 := hE.sch.2.1
  have col := hE.sch.2.2.1 t ht.1 ht.2
  have e21 := hE.sch.1.1
  have s34 : I 1034 t = S 201 t := (hE.sch.1.2.1 t ht.1 (by omega)).1
  have tC : (0 ≤ t ∧ t < I 1032 0) := by rw [e21]; exact ht
  have eDW : I 1000 9 = I 1034 t := by rw [hd.1, h37, s34]
  have d4 : 0 ≤ I 1000 9 ∧ I 1000 9 ≤ 4 := by rw [hd.1, h37]; omega
  -- the class's numbers
  have i0o : ∀ o k, ¬ (o = tX i ∧ (k = 7 ∨ k = 8)) → o ≠ tX i + 13 → txIn0 I (tX i) (tX i + 13) 1009 t (I 1000 9) o k = I o k := fun o k h1 h2 => by
    unfold txIn0
    exact (if_neg (fun w => h2 w.1)).trans ((if_neg (fun w => h2 w.1)).trans ((if_neg (fun w => h1 ⟨w.1, Or.inr w.2⟩)).trans (if_neg (fun w => h1 ⟨w.1, Or.inl w.2⟩))))
  have iw : ∀ c, 0 ≤ c → c < 4 → txIn0 I (tX i) (tX i + 13) 1009 t (I 1000 9) (tX i + 13) c = if c < I 1000 9 then I 1009 c else -2147483648 := fun c c0 c1 => by
    unfold txIn0
    by_cases h : c < I 1000 9
    · rw [if_pos h]
      refine (if_pos ⟨rfl, c0, by omega⟩).trans ?_
      rw [show 0 + (c - 0) = c by omega]
      exact (if_neg (fun w => by omega)).trans ((up2_o _ _ _ _ (by omega)).trans (up2_o _ _ _ _ (by omega)))
    · rw [if_neg h]
      exact (if_neg (fun w => h (by omega))).trans (if_pos ⟨rfl, c0, by omega⟩)
  have i7 : txIn0 I (tX i) (tX i + 13) 1009 t (I 1000 9) (tX i) 7 = 0 := by
    unfold txIn0
    exact (if_neg (fun w => by omega)).trans ((if_neg (fun w => by omega)).trans ((up2_k _ _ _ _ (by decide)).trans (up2_eq _ _ _ _)))
  have i8 : txIn0 I (tX i) (tX i + 13) 1009 t (I 1000 9) (tX i) 8 = t := by
    unfold txIn0
    exact (if_neg (fun w => by omega)).trans ((if_neg (fun w => by omega)).trans (up2_eq _ _ _ _))
  have hI : ∀ o k, ¬ (o = tX i ∧ 7 ≤ k ∧ k ≤ 11) → o ≠ tX i + 13 → o ≠ 1000 → (up2 (txIns I (tX i) (tX i + 13) 1009 t (I 1000 9)) 1000 9 0) o k = I o k := fun o k h1 h2 h3 => by
    rw [up2_o _ _ _ _ h3]
    unfold txIns
    rw [show up2 (txIn0 I (tX i) (tX i + 13) 1009 t (I 1000 9)) (tX i) 9 (txIn0 I (tX i) (tX i + 13) 1009 t (I 1000 9) (tX i + 13) 0) o k = txIn0 I (tX i) (tX i + 13) 1009 t (I 1000 9) o k from if_neg (fun w => h1 ⟨w.1, by omega⟩)]
    exact i0o o k (fun w => h1 ⟨w.1, by omega⟩) h2
  have h1000 : ∀ k, (up2 (txIns I (tX i) (tX i + 13) 1009 t (I 1000 9)) 1000 9 0) 1000 k = up2 I 1000 9 0 1000 k := fun k => by
    by_cases e : k = 9
    · rw [e, up2_eq, up2_eq]
    · rw [up2_k _ _ _ _ e, up2_k _ _ _ _ e]
      unfold txIns
      rw [up2_o _ _ _ _ (by omega)]
      exact i0o _ _ (fun w => by omega) (by omega)
  -- the reference's
  have m0 : ∀ o k, o ≠ 227 → o ≠ 228 → (mAct0 (mInX S i) i 0 t) o k = mInX S i o k := fun o k a b => by unfold mAct0; rw [up2_o _ _ _ _ b, up2_o _ _ _ _ a]
  have mX : ∀ o k, (o ≠ 232 ∨ ¬ (4 * (i : Int) ≤ k ∧ k < 4 * i + 4)) → (o ≠ 100 ∨ k ≠ 37) → mInX S i o k = S o k := fun o k a b => by
    unfold mInX mDr
    exact (if_neg (fun w => by omega)).trans (if_neg (fun w => by omega))
  have m32 : ∀ c, 0 ≤ c → c < 4 → (mAct0 (mInX S i) i 0 t) 232 (4 * (i : Int) + c) = if c < S 100 37 then S 238 c else -2147483648 := fun c c0 c1 => by
    rw [m0 232 _ (by decide) (by decide)]
    unfold mInX mDr
    rw [up2_o _ _ _ _ (by decide)]
    refine (if_pos ⟨rfl, by omega, by omega⟩).trans ?_
    rw [show 4 * (i : Int) + c - 4 * i = c by omega]
  have hS : ∀ o k, ¬ (227 ≤ o ∧ o ≤ 231 ∧ k = (i : Int)) → ¬ (o = 232 ∧ 4 * (i : Int) ≤ k ∧ k < 4 * i + 4) → ¬ (o = 100 ∧ k = 37) → (mAct0 (mInX S i) i 0 t) o k = S o k := fun o k h1 h2 h3 => by
    have : (mAct0 (mInX S i) i 0 t) o k = mInX S i o k := by
      unfold mAct0
      exact (if_neg (fun w => h1 ⟨by omega, by omega, w.2⟩)).trans (if_neg (fun w => h1 ⟨by omega, by omega, w.2⟩))
    rw [this]
    exact mX o k (by omega) (by omega)
  have p1 : PdE (up2 (txIns I (tX i) (tX i + 13) 1009 t (I 1000 9)) 1000 9 0) (mAct0 (mInX S i) i 0 t) i := by
    have a7 : (mAct0 (mInX S i) i 0 t) 227 i = 0 := by unfold mAct0; rw [up2_o _ _ _ _ (by decide), up2_eq]
    have a8 : (mAct0 (mInX S i) i 0 t) 228 i = t := by unfold mAct0; rw [up2_eq]
    have a0 : (mAct0 (mInX S i) i 0 t) 100 0 = S 100 0 := hS 100 0 (fun w => by omega) (fun w => by omega) (fun w => by omega)
    have b7 : (up2 (txIns I (tX i) (tX i + 13) 1009 t (I 1000 9)) 1000 9 0) (tX i) 7 = 0 := by
      rw [up2_o _ _ _ _ (by omega)]; unfold txIns
      rw [up2_k _ _ _ _ (by decide)]; exact i7
    have b8 : (up2 (txIns I (tX i) (tX i + 13) 1009 t (I 1000 9)) 1000 9 0) (tX i) 8 = t := by
      rw [up2_o _ _ _ _ (by omega)]; unfold txIns
      rw [up2_k _ _ _ _ (by decide)]; exact i8
    have cell : ∀ c, 0 ≤ c → c < 4 → (up2 (txIns I (tX i) (tX i + 13) 1009 t (I 1000 9)) 1000 9 0) (tX i + 13) c = (mAct0 (mInX S i) i 0 t) 232 (4 * (i : Int) + c) ∧ okV ((mAct0 (mInX S i) i 0 t) 232 (4 * (i : Int) + c)) := fun c c0 c1 => by
      rw [up2_o _ _ _ _ (by omega)]; unfold txIns
      rw [up2_o _ _ _ _ (by omega), iw c c0 c1, m32 c c0 c1, hd.1]
      by_cases e : c < S 100 37
      · rw [if_pos e, if_pos e]; exact hd.2 c c0 e
      · rw [if_neg e, if_neg e]; exact ⟨rfl, Or.inl rfl⟩
    have b9 : (up2 (txIns I (tX i) (tX i + 13) 1009 t (I 1000 9)) 1000 9 0) (tX i) 9 = (mAct0 (mInX S i) i 0 t) 232 (4 * (i : Int)) := by
      have := (cell 0 (by decide) (by decide)).1
      rw [up2_o _ _ _ _ (by omega), Int.add_zero] at this
      rw [up2_o _ _ _ _ (by omega)]
      unfold txIns at this ⊢
      rw [up2_o _ _ _ _ (by omega)] at this
      rw [up2_eq]; exact this
    unfold PdE InH
    rw [a7, a8, a0, b7, b8]
    exact ⟨⟨rfl, rfl⟩, ht, fun _ => ⟨b9, fun c c0 c1 => (cell c c0 c1).1, fun c c0 c1 => (cell c c0 c1).2⟩, fun w => absurd rfl w, fun w => by omega⟩
  have spP : Sp m_Transaction_planInsert false (rmv 1 60) (ex K P J (txIns I (tX i) (tX i + 13) 1009 t (I 1000 9)) (.inl none)) K P J I [vR (some (tX i)), vI t, vR (some 1009), vI (I 1000 9)] := sp_Transaction_planInsert hT.1 (hC.k 1 rfl) ⟨by omega, by omega, by omega⟩
  have E1 := hE.planI hB.lev hB.g10 hi h0 hI hS
  generalize hS1 : mAct0 (mInX S i) i 0 t = S1 at *
  -- the shape, with the draft empty
  have B0 : CB K P (up2 I 1000 9 0) n N g lq lv mv := by
    have o1 : ∀ o, o ≠ 1000 → up2 I 1000 9 0 o = I o := fun o h => funext (fun k => up2_o _ _ _ _ h)
    have LN0 : LgN (up2 I 1000 9 0) g N := by
      have := hB.l
      unfold LgN at *
      rw [o1 1192 (by decide)]; exact this
    refine ⟨hC, ⟨hB.v, LN0⟩, hB.e.fr (fun o ho => ⟨rfl, rfl, o1 o (by omega)⟩) ⟨rfl, rfl⟩ (fun j hj => (hB.t hj).1), fun j hj => ?_⟩
    obtain ⟨-, b, c⟩ := hB.t hj
    exact ⟨b.fl (hB.lev j hj) (fun o ho => o1 o (by unfold nTx tX at ho; omega)), by rw [o1 (tX j) (by unfold tX; omega)]; exact c⟩
  generalize hI1 : up2 (txIns I (tX i) (tX i + 13) 1009 t (I 1000 9)) 1000 9 0 = I1 at *
  have io : ∀ o, o ≠ tX i → o ≠ tX i + 13 → I1 o = up2 I 1000 9 0 o := fun o h1 h2 => by
    by_cases e : o = 1000
    · rw [e]; exact funext h1000
    · exact funext (fun k => (hI o k (fun w => h1 w.1) h2 e).trans (up2_o _ _ _ _ e).symm)
  have so : ∀ o, o ≠ 100 → (o < 227 ∨ 232 < o) → S1 o = S o := fun o h1 ho => funext (fun k => hS o k (fun w => by omega) (fun w => by omega) (fun w => h1 w.1))
  have LN : LgN I1 g N := by
    have := B0.l
    unfold LgN at *
    rw [io 1192 (by omega) (by omega)]; exact this
  have NT : TxN I1 i (lv i) (mv i) := by
    have l15 := hB.lev i hi
    have a40 : I1 (tX i + 40 + lv i) = I (tX i + 40 + lv i) := (io _ (by omega) (by omega)).trans (funext (fun k => up2_o _ _ _ _ (by omega)))
    have a80 : I1 (tX i + 80 + mv i) = I (tX i + 80 + mv i) := (io _ (by omega) (by omega)).trans (funext (fun k => up2_o _ _ _ _ (by omega)))
    unfold TxN at *
    rw [hI (tX i) 14 (fun w => by omega) (by omega) (by omega), hI (tX i) 17 (fun w => by omega) (by omega) (by omega), hI (tX i) 13 (fun w => by omega) (by omega) (by omega), a40, a80]
    exact hNT
  have B1 : CB K P I1 n N g lq lv mv := B0.tr hi hC ⟨hB.v, LN⟩ ⟨hT, NT, by rw [hI (tX i) 17 (fun w => by omega) (by omega) (by omega)]; exact hN17⟩ (fun _ _ => ⟨rfl, rfl⟩) (fun o a _ _ => ⟨rfl, rfl, io o (fun w => a (by unfold nTx; omega)) (fun w => a (by unfold nTx; omega))⟩)
  have eM : mM S1 n = mM S n := by
    unfold mM opC fdC mFreed
    rw [so 221 (by decide) (by decide), so 225 (by decide) (by decide)]
  have e14 : ∀ j, j < n → I1 (tX j) 14 = I (tX j) 14 := fun j hj => hI _ 14 (fun w => by omega) (by unfold tX; omega) (by unfold tX; omega)
  have r1 := hE.rd.1 i hi
  have spS := settle_first (J := J) (X := X) (Y := Y) (q' := q + 4) B1 E1 hi (by rw [so 221 (by decide) (by decide)]; exact h0) p1 ⟨by rw [so 233 (by decide) (by decide)]; omega, by omega, hq⟩ hZ z (fun j hj => by rw [e14 j hj, eM]; exact hc j hj) hX
  rw [eM] at spS
  have h4 : I (tX i) 4 = 0 := (hE.tx i hi).1.2.2.2.1.trans h0
  have spA := sp_F_active1 (J := J) hC hB.e hi h4
  have spH : Sp m_Engine_hasTransaction false (rmv 1 20) (ex K P J I (.inl (some (vI 1)))) K P J I [vR (some 1064), vI (i : Int)] := by
    have := sp_Engine_hasTransaction (J := J) hC hB.e (a := (i : Int))
    rw [bI1 (show 0 ≤ (i : Int) ∧ (i : Int) < n by omega)] at this
    exact this
  have spB : Sp m_Schema_hasTable false (rmv 0 0) (ex K P J I (.inl (some (vI 1)))) K P J I [vR (some 1032), vI t] := by
    have := sp_Schema_hasTable (J := J) (I := I) (a := t) hC.sc
    rw [bI1 tC] at this
    exact this
  have M0 := (mM_rg (S := S) (n := n)).2.2
  have set : VE m_F_insert true ({ frames := 13, cells := X, slots := Y, locals := 560 } : Room) (RetE (fun T => T 222 i) (TryP S1 i) (fun j => I (tX j) 14 + 5 * mM S n + (if j = i then 5 else 0)) Z K P J (up2 I 1000 9 0) (mTry1 S1 i) n g lq lv mv (q + 4)) K P J I1 0 0 78 [(0, vR (some 1000)), (3, vR (some (tX i)))] [] := by
    refine VE.aload_n (pc' := 79) d_F_insert_78 rfl rfl ?_
    refine VE.gP (ci := 10) (T := T10) (N := 11) (k := 1) (k' := 1) (pc' := 82) d_F_insert_79 rfl lk_F_21 in10 rfl rfl rfl rfl (by first | exact hC.k 0 rfl | exact hC.k 9 rfl | exact hC.k 2 rfl | exact hC.k 3 rfl | exact hx | exact hxF) (by first | exact hC.p 1 rfl | exact hC.p 0 rfl | exact hC.p 8 rfl | exact hC.p 9 rfl | exact fF | rfl) ?_
    refine VE.aload_n (pc' := 83) d_F_insert_82 rfl rfl ?_
    refine VE.callVE (ci := 0) (T := T0) (N := 8) (pc' := 86) d_F_insert_83 rfl spS rfl mv_Engine_settle.1 mv_Engine_settle.2.1 rfl mv_Engine_settle.2.2.1 mv_Engine_settle.2.2.2 lk_F_173 rfl (by first | exact hC.k 0 rfl | exact hC.k 9 rfl | exact hC.k 2 rfl | exact hC.k 3 rfl | exact hx | exact hxF) rfl rfl rfl (by show 0 + X ≤ X; omega) (by show 0 + Y ≤ Y; omega) (fun k9 n9 r K' P' J' I' hz => ?_)
    obtain ⟨z1, z2, zT, m', N', g', lv', mv', d1, d2, d3, d4, d5, d6, d7⟩ := hz
    cases z1
    replace z2 := z2.symm
    subst z2
    have M9 := (mM_rg (S := mSettle m' (mTry1 S1 i)) (n := n)).2.2
    have p9 := d1.pot (fun j hj => by
      have a : I' (tX j) 14 + 5 * mM (mSettle m' (mTry1 S1 i)) n ≤ I1 (tX j) 14 + 5 * mM S n + (if j = i then 5 else 0) := d6 j hj
      have b := hc j hj
      rw [e14 j hj] at a
      split at a <;> omega)
    have hxF : K' (tX i) = some (8, 0) := (d1.t hi).1.k
    have fF : I' (tX i) 5 = mSettle m' (mTry1 S1 i) 222 i := (d2.tx i hi).1.2.2.2.2.1
    have fin : RetE (fun T => T 222 i) (TryP S1 i) (fun j => I (tX j) 14 + 5 * mM S n + (if j = i then 5 else 0)) Z K P J (up2 I 1000 9 0) (mTry1 S1 i) n g lq lv mv (q + 4) (.inl (some (vI (mSettle m' (mTry1 S1 i) 222 i)))) K' P' J I' k9 n9 := ⟨rfl, zT, m', N', g', lv', mv', rfl, d1, d2, d3, d4, d5, fun j hj => by
      have a : I' (tX j) 14 + 5 * mM (mSettle m' (mTry1 S1 i)) n ≤ I1 (tX j) 14 + 5 * mM S n + (if j = i then 5 else 0) := d6 j hj
      rw [e14 j hj] at a
      exact a, fun o ho => ⟨(d7 o ho).1, (d7 o ho).2.1, (d7 o ho).2.2.trans (io o (fun w => ho (by unfold nEn; omega)) (fun w => ho (by unfold nEn; omega)))⟩⟩
    refine VE.aload_n (pc' := 87) d_F_insert_86 rfl rfl ?_
    refine VE.gI (ci := 8) (T := T8) (N := 19) (k := 5) (k' := 5) (pc' := 90) d_F_insert_87 rfl lk_F_177 in8 rfl rfl rfl rfl (by first | exact hC.k 0 rfl | exact hC.k 9 rfl | exact hC.k 2 rfl | exact hC.k 3 rfl | exact hx | exact hxF) (by first | exact hC.p 1 rfl | exact hC.p 0 rfl | exact hC.p 8 rfl | exact hC.p 9 rfl | exact fF | rfl) ?_
    exact VE.iret d_F_insert_90 rfl rfl (by show 0 + k9 ≤ X; omega) (by show 0 + n9 ≤ Y; omega) (by have := fin; rw [← Nat.zero_add k9, ← Nat.zero_add n9] at this; exact this)
  refine SpE.ofV (by decide) (Or.inl rfl) rfl ?_
  refine VE.aload_n (pc' := 1) d_F_insert_0 rfl rfl ?_
  refine VE.gP (ci := 10) (T := T10) (N := 11) (k := 1) (k' := 1) (pc' := 4) d_F_insert_1 rfl lk_F_21 in10 rfl rfl rfl rfl (by first | exact hC.k 0 rfl | exact hC.k 9 rfl | exact hC.k 2 rfl | exact hC.k 3 rfl | exact hx | exact hxF) (by first | exact hC.p 1 rfl | exact hC.p 0 rfl | exact hC.p 8 rfl | exact hC.p 9 rfl | exact fF | rfl) ?_
  refine VE.iload_n (pc' := 5) d_F_insert_4 rfl rfl ?_
  refine VE.cV (ci := 0) (T := T0) (N := 8) (pc' := 8) d_F_insert_5 rfl mv_Engine_hasTransaction lk_F_157 rfl (by first | exact hC.k 0 rfl | exact hC.k 9 rfl | exact hC.k 2 rfl | exact hC.k 3 rfl | exact hx | exact hxF) rfl rfl rfl (by show 0 + 0 ≤ X; omega) (by show 0 + 0 ≤ Y; omega) (spH) rfl rfl ?_
  refine VE.if_eq (tgt := 26) (pc' := 11) d_F_insert_8 rfl rfl (fun c8 => ?_) (fun c8 => ?_)
  case refine_1 => exact absurd c8 (by decide)
  refine VE.aload_n (pc' := 12) d_F_insert_11 rfl rfl ?_
  refine VE.gP (ci := 10) (T := T10) (N := 11) (k := 0) (k' := 0) (pc' := 15) d_F_insert_12 rfl lk_F_12 in10 rfl rfl rfl rfl (by first | exact hC.k 0 rfl | exact hC.k 9 rfl | exact hC.k 2 rfl | exact hC.k 3 rfl | exact hx | exact hxF) (by first | exact hC.p 1 rfl | exact hC.p 0 rfl | exact hC.p 8 rfl | exact hC.p 9 rfl | exact fF | rfl) ?_
  refine VE.iload_n (pc' := 16) d_F_insert_15 rfl rfl ?_
  refine VE.cV (ci := 7) (T := T7) (N := 8) (pc' := 19) d_F_insert_16 rfl mv_Schema_hasTable lk_F_123 rfl (by first | exact hC.k 0 rfl | exact hC.k 9 rfl | exact hC.k 2 rfl | exact hC.k 3 rfl | exact hx | exact hxF) rfl rfl rfl (by show 0 + 0 + 0 ≤ X; omega) (by show 0 + 0 + 0 ≤ Y; omega) (spB) rfl rfl ?_
  refine VE.if_eq (tgt := 26) (pc' := 22) d_F_insert_19 rfl rfl (fun c19 => ?_) (fun c19 => ?_)
  case refine_1 => exact absurd c19 (by decide)
  refine VE.iconst (pc' := 23) d_F_insert_22 rfl (by decide) ?_
  refine VE.goto (pc' := 27) d_F_insert_23 rfl ?_
  refine VE.callSX (pc' := 30) d_F_insert_27 rfl (sp_F_demandPlace1 (by decide)) rfl ms_F_demandPlace.1 ms_F_demandPlace.2.1 rfl ms_F_demandPlace.2.2 lk_F_97 rfl rfl rfl (by show 0 + 0 + 0 + 0 ≤ X; omega) (by show 0 + 0 + 0 + 0 ≤ Y; omega) (fun _ _ _ _ _ hz => by cases hz.1) (fun r _ _ _ _ hz => ?_)
  obtain ⟨z1, z2, z3, z4, z5⟩ := hz
  cases z1
  replace z2 := z2.symm; replace z3 := z3.symm; replace z4 := z4.symm; replace z5 := z5.symm
  subst z2; subst z3; subst z4; subst z5
  refine VE.aload_n (pc' := 31) d_F_insert_30 rfl rfl ?_
  refine VE.iload_n (pc' := 32) d_F_insert_31 rfl rfl ?_
  refine VE.callVX (ci := 10) (T := T10) (N := 11) (pc' := 35) d_F_insert_32 rfl (spA) rfl mv_F_activeTransaction.1 mv_F_activeTransaction.2.1 rfl mv_F_activeTransaction.2.2.1 mv_F_activeTransaction.2.2.2 lk_F_160 rfl (by first | exact hC.k 0 rfl | exact hC.k 9 rfl | exact hC.k 2 rfl | exact hC.k 3 rfl | exact hx | exact hxF) rfl rfl rfl (by show 0 + 0 + 0 + 0 + 0 ≤ X; omega) (by show 0 + 0 + 0 + 0 + 0 ≤ Y; omega) (fun _ _ _ _ _ hz => by cases hz.1) (fun r _ _ _ _ hz => ?_)
  obtain ⟨z1, z2, z3, z4, z5⟩ := hz
  cases z1
  replace z2 := z2.symm; replace z3 := z3.symm; replace z4 := z4.symm; replace z5 := z5.symm
  subst z2; subst z3; subst z4; subst z5
  refine VE.astore_n (pc' := 36) d_F_insert_35 rfl rfl ?_
  refine VE.aload_n (pc' := 37) d_F_insert_36 rfl rfl ?_
  refine VE.gI (ci := 10) (T := T10) (N := 11) (k := 9) (k' := 9) (pc' := 40) d_F_insert_37 rfl lk_F_154 in10 rfl rfl rfl rfl (by first | exact hC.k 0 rfl | exact hC.k 9 rfl | exact hC.k 2 rfl | exact hC.k 3 rfl | exact hx | exact hxF) (by first | exact hC.p 1 rfl | exact hC.p 0 rfl | exact hC.p 8 rfl | exact hC.p 9 rfl | exact fF | rfl) ?_
  refine VE.aload_n (pc' := 41) d_F_insert_40 rfl rfl ?_
  refine VE.gP (ci := 10) (T := T10) (N := 11) (k := 0) (k' := 0) (pc' := 44) d_F_insert_41 rfl lk_F_12 in10 rfl rfl rfl rfl (by first | exact hC.k 0 rfl | exact hC.k 9 rfl | exact hC.k 2 rfl | exact hC.k 3 rfl | exact hx | exact hxF) (by first | exact hC.p 1 rfl | exact hC.p 0 rfl | exact hC.p 8 rfl | exact hC.p 9 rfl | exact fF | rfl) ?_
  refine VE.gP (ci := 7) (T := T7) (N := 8) (k := 1) (k' := 1) (pc' := 47) d_F_insert_44 rfl lk_F_164 in7 rfl rfl rfl rfl (by first | exact hC.k 0 rfl | exact hC.k 9 rfl | exact hC.k 2 rfl | exact hC.k 3 rfl | exact hx | exact hxF) (by first | exact hC.p 1 rfl | exact hC.p 0 rfl | exact hC.p 8 rfl | exact hC.p 9 rfl | exact fF | rfl) ?_
  refine VE.iload_n (pc' := 48) d_F_insert_47 rfl rfl ?_
  refine VE.ild (pc' := 49) d_F_insert_48 rfl (by first | exact hC.k 0 rfl | exact hC.k 9 rfl | exact hC.k 2 rfl | exact hC.k 3 rfl | exact hx | exact hxF) (by omega) (by omega) (by first | exact hC.p 1 rfl | exact hC.p 0 rfl | exact hC.p 8 rfl | exact hC.p 9 rfl | exact fF | rfl) ?_
  refine VE.icmp_ne (tgt := 56) (pc' := 52) d_F_insert_49 rfl rfl (fun c49 => ?_) (fun c49 => ?_)
  case refine_1 => exact absurd c49 (fun w => w eDW)
  refine VE.iconst (pc' := 53) d_F_insert_52 rfl (by decide) ?_
  refine VE.goto (pc' := 57) d_F_insert_53 rfl ?_
  refine VE.callSX (pc' := 60) d_F_insert_57 rfl (sp_F_demandState1 (by decide)) rfl ms_F_demandState.1 ms_F_demandState.2.1 rfl ms_F_demandState.2.2 lk_F_82 rfl rfl rfl (by show 0 + 0 + 0 + 0 + 0 + 0 ≤ X; omega) (by show 0 + 0 + 0 + 0 + 0 + 0 ≤ Y; omega) (fun _ _ _ _ _ hz => by cases hz.1) (fun r _ _ _ _ hz => ?_)
  obtain ⟨z1, z2, z3, z4, z5⟩ := hz
  cases z1
  replace z2 := z2.symm; replace z3 := z3.symm; replace z4 := z4.symm; replace z5 := z5.symm
  subst z2; subst z3; subst z4; subst z5
  refine VE.aload_n (pc' := 61) d_F_insert_60 rfl rfl ?_
  refine VE.iload_n (pc' := 62) d_F_insert_61 rfl rfl ?_
  refine VE.aload_n (pc' := 63) d_F_insert_62 rfl rfl ?_
  refine VE.gP (ci := 10) (T := T10) (N := 11) (k := 8) (k' := 8) (pc' := 66) d_F_insert_63 rfl lk_F_59 in10 rfl rfl rfl rfl (by first | exact hC.k 0 rfl | exact hC.k 9 rfl | exact hC.k 2 rfl | exact hC.k 3 rfl | exact hx | exact hxF) (by first | exact hC.p 1 rfl | exact hC.p 0 rfl | exact hC.p 8 rfl | exact hC.p 9 rfl | exact fF | rfl) ?_
  refine VE.aload_n (pc' := 67) d_F_insert_66 rfl rfl ?_
  refine VE.gI (ci := 10) (T := T10) (N := 11) (k := 9) (k' := 9) (pc' := 70) d_F_insert_67 rfl lk_F_154 in10 rfl rfl rfl rfl (by first | exact hC.k 0 rfl | exact hC.k 9 rfl | exact hC.k 2 rfl | exact hC.k 3 rfl | exact hx | exact hxF) (by first | exact hC.p 1 rfl | exact hC.p 0 rfl | exact hC.p 8 rfl | exact hC.p 9 rfl | exact fF | rfl) ?_
  refine VE.cV (ci := 8) (T := T8) (N := 19) (pc' := 73) d_F_insert_70 rfl mv_Transaction_planInsert lk_F_167 rfl (by first | exact hC.k 0 rfl | exact hC.k 9 rfl | exact hC.k 2 rfl | exact hC.k 3 rfl | exact hx | exact hxF) rfl rfl rfl (by show 0 + 0 + 0 + 0 + 0 + 0 + 0 ≤ X; omega) (by show 0 + 0 + 0 + 0 + 0 + 0 + 0 ≤ Y; omega) (spP) rfl rfl ?_
  refine VE.aload_n (pc' := 74) d_F_insert_73 rfl rfl ?_
  refine VE.iconst (pc' := 75) d_F_insert_74 rfl (by decide) ?_
  refine VE.pI (ci := 10) (T := T10) (N := 11) (k := 9) (k' := 9) (ty := ty10) (pc' := 78) d_F_insert_75 rfl lk_F_154 in10 tk10 nm10 rfl rfl rfl rfl rfl rfl (by first | exact hC.k 0 rfl | exact hC.k 9 rfl | exact hC.k 2 rfl | exact hC.k 3 rfl | exact hx | exact hxF) ?_
  refine VE.pick [0, 3] ?_
  exact (by rw [hI1]; exact set)
end
