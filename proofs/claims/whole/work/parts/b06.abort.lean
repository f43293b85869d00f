/-! RowForge.abort, where it may be called -/
section
variable {K : KT} {P : PT} {J I S T : IT} {n N g lq i : Nat} {lv mv : Nat → Nat} {q : Int} {Z : Int → IT → Prop} {X Y : Nat}
/-- one has ended: less is to be done -/
theorem mM_end {i : Nat} (h4 : opC S n ≤ 4) (hi : i < n) (ho : S 221 i < 2) (f : ∀ j : Int, j ≠ i → T 221 j = S 221 j) (h3 : 2 ≤ T 221 i) : mM T n ≤ mM S n := by
  have u1 := cntI_upd (a := fun j => S 221 j < 2) (b := fun j => T 221 j < 2) n hi (fun j _ hj => by show T 221 j < 2 ↔ S 221 j < 2; rw [f j (by omega)])
  have oS : bI ((fun j : Int => S 221 j < 2) (i : Int)) = 1 := bI1 ho
  have oT : bI ((fun j : Int => T 221 j < 2) (i : Int)) = 0 := bI0 (by show ¬ T 221 i < 2; omega)
  rw [oS, oT] at u1
  have rS := cntI_rg (mFreed S) n
  have le := cntI_le (g := mFreed T) (h := fun j => T 221 j < 2) n (fun j _ hj => by show T 221 j < 2; have := hj.1; omega)
  unfold mM opC fdC at *
  omega
theorem ab_cls (h44 : S 100 44 = N) : (∀ j : Int, j ≠ i → mAborts S i 221 j = S 221 j) ∧ mAborts S i 221 i = 3 := by
  obtain ⟨T, hT, eA, -⟩ := mAborts_X (S := S) (i := (i : Int)) (N := N) h44
  rw [eA]
  unfold mends
  refine ⟨fun j hj => ?_, ?_⟩
  · rw [up2_o _ _ _ _ (by omega), up2_o _ _ _ _ (by omega), up2_k _ _ _ _ hj]
    exact hT.1 221 j (by omega) (Or.inl (by omega))
  · rw [up2_o _ _ _ _ (by decide), up2_o _ _ _ _ (by decide), up2_eq]
theorem roll_ex (hB : CB K P I n N g lq lv mv) (hE : ER I S n N g lv mv q) (hi : i < n) (h0 : S 221 i < 2) (hab : N + (unM S i N).length < 16384) :
    ∃ (g' c z : Nat) (K' : KT) (P' : PT) (I' : IT), CB K' P' I' n (N + (unM S i N).length + 1) g' lq lv mv ∧ ER I' (mAborts S i) n (N + (unM S i N).length + 1) g' lv mv q ∧ (c + g = g' ∧ z + lgP g = lgP g') ∧ (∀ j, j < n → I' (tX j) 14 = I (tX j) 14) ∧ Fr (nEn n) K P I K' P' I' ∧
      Sp m_Engine_rollBack false ({ frames := 5, cells := c, slots := z, locals := 200 } : Room) (ex K' P' J I' (.inl (some (vI (mAbortsN S i))))) K P J I [vR (some 1064), vR (some (tX i))] := by
  have hC := hB.c
  obtain ⟨hT, hNT, hN17⟩ := hB.t hi
  have n60 := hB.e.2.1
  have x0 : 2000 ≤ tX i ∧ tX i + 128 ≤ 10000 ∧ tX i + 128 ≤ 2000 + 128 * n := by unfold tX; omega
  have op : opS S n i := ⟨hi, h0⟩
  have m15 := hB.lev i hi
  have eL := undL_eq (I := I) (S := S) (g := g) (i := (i : Int)) hE.lg.2 N (Nat.le_refl _)
  have lenL : (undL I g i N 0).length = (unM S i N).length := by rw [eL, List.length_map]
  obtain ⟨g', c, z, K', P', I1, ⟨v1, v2, v3, v4, v5⟩, f1, r1, x1, sp⟩ := rollback_ex (J := J) (u := 0) (by omega) hC hT hNT (hE.tx i hi).1.1 hB.v hB.l hE.lgR (hE.noUn op) (by rw [lenL]; exact hab)
  obtain ⟨-, -, -, eN⟩ := mAborts_X (S := S) (i := (i : Int)) (N := N) hE.cnt.2.1
  rw [lenL, ← eN] at sp
  have fo : ∀ o, o ≠ tX i → o ≠ 1069 → rbI I1 i (mv i) o = I1 o := fun o a b => by unfold rbI; exact fiI_o a b _
  have fx : ∀ k, k ≠ 4 → k ≠ 6 → rbI I1 i (mv i) (tX i) k = I1 (tX i) k := fun k a d => by
    unfold rbI
    rw [fiI_x (by omega), if_neg d, if_neg a]
  have hF : ∀ o, ¬ nTx i o → ¬ nLg o → o ≠ 1069 → K' o = K o ∧ P' o = P o ∧ rbI I1 i (mv i) o = I o := fun o a b d => by
    obtain ⟨k1, k2, k3⟩ := f1 o b
    exact ⟨k1, k2, (fo o (fun z => a (by unfold nTx; omega)) d).trans k3⟩
  refine ⟨g', c, z, K', P', rbI I1 i (mv i), hB.tr hi v3 ⟨v1, ?_⟩ ⟨v4, v5.sc (fun k a _ d => fx k a d) (fun a a0 a1 => fo _ (by omega) (by omega)) m15, ?_⟩ (fun _ _ => ⟨rfl, rfl⟩) (fun o a b d => hF o a b (by omega)), out_abort0 hE hB.lev ⟨hB.g10, v1.2.2⟩ hi h0 hab x1 v2 f1, r1, fun j hj => ?_, fun o ho => hF o (fun z => ho (by unfold nTx at z; unfold nEn; omega)) (fun z => ho (by unfold nLg at z; unfold nEn; omega)) (fun z => ho (by unfold nEn; omega)), sp⟩
  · have := v2
    unfold LgN at *
    rw [fo 1192 (by omega) (by decide), ← lenL]; exact this
  · rw [fx 17 (by decide) (by decide), (f1 (tX i) (fun z => by unfold nLg at z; omega)).2.2]; exact hN17
  · by_cases e : j = i
    · rw [e, fx 14 (by decide) (by decide), (f1 (tX i) (fun z => by unfold nLg at z; omega)).2.2]
    · rw [fo (tX j) (by unfold tX at *; omega) (by unfold tX; omega), (f1 (tX j) (fun z => by unfold nLg tX at z; omega)).2.2]
/-- the ends of a call that settles, with what it returns -/
def RetE (v : IT → Int) (E : Prop) (B : Nat → Int) (Z : Int → IT → Prop) (K : KT) (P : PT) (J I S : IT) (n g lq : Nat) (lv mv : Nat → Nat) (q : Int) : PE := fun r K' P' J' I' c z => J' = J ∧ E ∧ ∃ (m' N' g' : Nat) (lv' mv' : Nat → Nat), r = .inl (some (vI (v (mSettle m' S)))) ∧ CB K' P' I' n N' g' lq lv' mv' ∧ ER I' (mSettle m' S) n N' g' lv' mv' q ∧ SetOK m' S ∧ Z (-1) (mSettle m' S) ∧ (c + pC g n lv mv = pC g' n lv' mv' ∧ z + pS g n lv mv = pS g' n lv' mv') ∧ (∀ j, j < n → I' (tX j) 14 + 5 * mM (mSettle m' S) n ≤ B j) ∧ Fr (nEn n) K P I K' P' I'
theorem abort_ex (hB : CB K P I n N g lq lv mv) (hE : ER I S n N g lv mv q) (hi : i < n) (h0 : S 221 i < 2) (hab : N + (unM S i N).length < 16384) (hZ : ZOK Z) (z : Z (-1) (mAborts S i)) (hc : ∀ j, j < n → I (tX j) 14 + 5 * mM S n ≤ 8190) (hX : 2100 ≤ X + pC g n lv mv ∧ 5306448 ≤ Y + pS g n lv mv) :
    SpE m_F_abort true ({ frames := 13, cells := X, slots := Y, locals := 560 } : Room) (RetE (fun _ => mAbortsN S i) True (fun j => I (tX j) 14 + 5 * mM S n) Z K P J I (mAborts S i) n g lq lv mv q) K P J I [vR (some 1000), vI (i : Int)] := by
  have hC := hB.c
  have n60 := hB.e.2.1
  obtain ⟨hT, -, -⟩ := hB.t hi
  have hx := hT.k
  obtain ⟨g1, c, w, K1, P1, I1, b1, e1, r1, n1, f1, spR⟩ := roll_ex (J := J) hB hE hi h0 hab
  have C1 := b1.c
  have m0 := (mM_rg (S := S) (n := n)).2.2
  have mA := (mM_rg (S := mAborts S i) (n := n)).2.2
  obtain ⟨y1, y2⟩ := ab_cls (S := S) (i := i) hE.cnt.2.1
  have me := mM_end (T := mAborts S i) (open4 hE) hi h0 y1 (by omega)
  have p1 := b1.pot (fun j hj => by rw [n1 j hj]; have := hc j hj; omega)
  have q1 : c + pC g n lv mv = pC g1 n lv mv := by unfold pC; omega
  have q2 : w + pS g n lv mv = pS g1 n lv mv := by unfold pS; omega
  have spS := settle_null (J := J) (X := X - c) (Y := Y - w) b1 e1 hZ z (fun j hj => by rw [n1 j hj]; have := hc j hj; omega) ⟨by omega, by omega⟩
  have tx4 := (hE.tx i hi).1.2.2.2.1
  have spO : Sp m_Transaction_isOpen false (rmv 0 0) (ex K P J I (.inl (some (vI 1)))) K P J I [vR (some (tX i))] := by
    have := sp_Transaction_isOpen (J := J) (I := I) hT.1
    rw [bI1 (by have := (hE.ph i hi).1; omega)] at this
    exact this
  have spT : Sp m_F_transactionAt true rmE0 (ex K P J I (.inl (some (vR (some (tX i)))))) K P J I [vR (some 1000), vI (i : Int)] := by
    have := sp_F_transactionAt1 (J := J) hC hB.e (a := (i : Int)) ⟨by omega, by omega⟩
    rw [show ((i : Int)).toNat = i by omega] at this
    exact this
  refine SpE.ofV (by decide) (Or.inl rfl) rfl ?_
  refine VE.aload_n (pc' := 1) d_F_abort_0 rfl rfl ?_
  refine VE.iload_n (pc' := 2) d_F_abort_1 rfl rfl ?_
  refine VE.callVX (ci := 10) (T := T10) (N := 11) (pc' := 5) d_F_abort_2 rfl (spT) rfl mv_F_transactionAt.1 mv_F_transactionAt.2.1 rfl mv_F_transactionAt.2.2.1 mv_F_transactionAt.2.2.2 lk_F_194 rfl (by first | exact hC.k 0 rfl | exact hC.k 9 rfl | exact hx | exact C1.k 0 rfl | exact C1.k 9 rfl) rfl rfl rfl (by show 0 + 0 ≤ X; omega) (by show 0 + 0 ≤ Y; omega) (fun _ _ _ _ _ hz => by cases hz.1) (fun r _ _ _ _ hz => ?_)
  obtain ⟨z1, z2, z3, z4, z5⟩ := hz
  cases z1
  replace z2 := z2.symm; replace z3 := z3.symm; replace z4 := z4.symm; replace z5 := z5.symm
  subst z2; subst z3; subst z4; subst z5
  refine VE.astore_n (pc' := 6) d_F_abort_5 rfl rfl ?_
  refine VE.aload_n (pc' := 7) d_F_abort_6 rfl rfl ?_
  refine VE.cV (ci := 8) (T := T8) (N := 19) (pc' := 10) d_F_abort_7 rfl mv_Transaction_isOpen lk_F_197 rfl (by first | exact hC.k 0 rfl | exact hC.k 9 rfl | exact hx | exact C1.k 0 rfl | exact C1.k 9 rfl) rfl rfl rfl (by show 0 + 0 + 0 ≤ X; omega) (by show 0 + 0 + 0 ≤ Y; omega) (spO) rfl rfl ?_
  refine VE.callSX (pc' := 13) d_F_abort_10 rfl (sp_F_demandState1 (by decide)) rfl ms_F_demandState.1 ms_F_demandState.2.1 rfl ms_F_demandState.2.2 lk_F_82 rfl rfl rfl (by show 0 + 0 + 0 + 0 ≤ X; omega) (by show 0 + 0 + 0 + 0 ≤ Y; omega) (fun _ _ _ _ _ hz => by cases hz.1) (fun r _ _ _ _ hz => ?_)
  obtain ⟨z1, z2, z3, z4, z5⟩ := hz
  cases z1
  replace z2 := z2.symm; replace z3 := z3.symm; replace z4 := z4.symm; replace z5 := z5.symm
  subst z2; subst z3; subst z4; subst z5
  refine VE.aload_n (pc' := 14) d_F_abort_13 rfl rfl ?_
  refine VE.gP (ci := 10) (T := T10) (N := 11) (k := 1) (k' := 1) (pc' := 17) d_F_abort_14 rfl lk_F_21 in10 rfl rfl rfl rfl (by first | exact hC.k 0 rfl | exact hC.k 9 rfl | exact hx | exact C1.k 0 rfl | exact C1.k 9 rfl) (by first | exact hC.p 1 rfl | exact C1.p 1 rfl | rfl) ?_
  refine VE.aload_n (pc' := 18) d_F_abort_17 rfl rfl ?_
  refine VE.cV (ci := 0) (T := T0) (N := 8) (pc' := 21) d_F_abort_18 rfl mv_Engine_rollBack lk_F_200 rfl (by first | exact hC.k 0 rfl | exact hC.k 9 rfl | exact hx | exact C1.k 0 rfl | exact C1.k 9 rfl) rfl rfl rfl (by show 0 + 0 + 0 + 0 + c ≤ X; omega) (by show 0 + 0 + 0 + 0 + w ≤ Y; omega) (spR) rfl rfl ?_
  refine VE.istore_n (pc' := 22) d_F_abort_21 rfl rfl ?_
  refine VE.aload_n (pc' := 23) d_F_abort_22 rfl rfl ?_
  refine VE.gP (ci := 10) (T := T10) (N := 11) (k := 1) (k' := 1) (pc' := 26) d_F_abort_23 rfl lk_F_21 in10 rfl rfl rfl rfl (by first | exact hC.k 0 rfl | exact hC.k 9 rfl | exact hx | exact C1.k 0 rfl | exact C1.k 9 rfl) (by first | exact hC.p 1 rfl | exact C1.p 1 rfl | rfl) ?_
  refine VE.null (pc' := 27) d_F_abort_26 rfl ?_
  refine VE.callVE (ci := 0) (T := T0) (N := 8) (pc' := 30) d_F_abort_27 rfl spS rfl mv_Engine_settle.1 mv_Engine_settle.2.1 rfl mv_Engine_settle.2.2.1 mv_Engine_settle.2.2.2 lk_F_173 rfl (by first | exact hC.k 0 rfl | exact hC.k 9 rfl | exact hx | exact C1.k 0 rfl | exact C1.k 9 rfl) rfl rfl rfl (by show 0 + 0 + 0 + c + (X - c) ≤ X; omega) (by show 0 + 0 + 0 + w + (Y - w) ≤ Y; omega) (fun k9 n9 r K' P' J' I' hz => ?_)
  obtain ⟨z1, z2, -, m', N', g', lv', mv', d1, d2, d3, d4, d5, d6, d7⟩ := hz
  cases z1
  replace z2 := z2.symm
  subst z2
  have M9 := (mM_rg (S := mSettle m' (mAborts S i)) (n := n)).2.2
  have p9 := d1.pot (fun j hj => by
    have a : I' (tX j) 14 + 5 * mM (mSettle m' (mAborts S i)) n ≤ I1 (tX j) 14 + 5 * mM (mAborts S i) n := d6 j hj
    have b := hc j hj
    rw [n1 j hj] at a
    omega)
  have fin : RetE (fun _ => mAbortsN S i) True (fun j => I (tX j) 14 + 5 * mM S n) Z K P J I (mAborts S i) n g lq lv mv q (.inl (some (vI (mAbortsN S i)))) K' P' J I' (c + k9) (w + n9) := ⟨rfl, trivial, m', N', g', lv', mv', rfl, d1, d2, d3, d4, ⟨by omega, by omega⟩, fun j hj => by
    have a : I' (tX j) 14 + 5 * mM (mSettle m' (mAborts S i)) n ≤ I1 (tX j) 14 + 5 * mM (mAborts S i) n := d6 j hj
    rw [n1 j hj] at a
    show _ ≤ I (tX j) 14 + 5 * mM S n
    omega, fun o ho => ⟨(d7 o ho).1.trans (f1 o ho).1, (d7 o ho).2.1.trans (f1 o ho).2.1, (d7 o ho).2.2.trans (f1 o ho).2.2⟩⟩
  refine VE.iload_n (pc' := 31) d_F_abort_30 rfl rfl ?_
  exact VE.iret d_F_abort_31 rfl rfl (by show 0 + 0 + 0 + 0 + c + k9 ≤ X; omega) (by show 0 + 0 + 0 + 0 + w + n9 ≤ Y; omega) (by have := fin; rw [← Nat.zero_add c, ← Nat.zero_add w] at this; exact this)
end
