/-! trying to commit -/
section
variable {K : KT} {P : PT} {J I S W : IT} {n N g lq i : Nat} {lv mv : Nat → Nat} {q : Int}
/-- the reference's state behind it -/
noncomputable def mCm1 (S : IT) (i : Int) : IT := if bI (mFail S i) = 1 then mAborts S i else mCmE S i
/-- rolled back, the outcome as it was -/
theorem out_abort0 {I1 : IT} {g' : Nat} {K K' : KT} {P P' : PT} (h : ER I W n N g lv mv q) (hl : ∀ j, j < n → lv j < 15 ∧ mv j < 15) (hg : g < 10 ∧ g' < 10) (hi : i < n) (ho : W 221 i < 2) (h16 : N + (unM W i N).length < 16384)
    (hX : LgX I I1 g g' N (undL I g i N 0 ++ [rcN 3 i (-2147483648) (-2147483648)])) (hL : LgN I1 g' (N + (undL I g i N 0).length + 1)) (hF : Fr nLg K P I K' P' I1) :
    ER (rbI I1 i (mv i)) (mAborts W i) n (N + (unM W i N).length + 1) g' lv mv q := by
  have x0 : 2000 ≤ tX i ∧ tX i + 128 ≤ 10000 := by have := h.cnt.2.2.1; unfold tX; omega
  have a := out_abort (V := W 222 i) h hl hg hi ho h16 hX hL hF
  have e1 : up2 (mAborts W i) 222 i (W 222 i) = mAborts W i := by
    obtain ⟨T, hT, eA, -⟩ := mAborts_X (S := W) (i := (i : Int)) (N := N) h.cnt.2.1
    refine funext (fun o => funext (fun k => ?_))
    by_cases c : o = 222 ∧ k = i
    · rw [c.1, c.2, up2_eq, eA]
      unfold mends
      rw [up2_o _ _ _ _ (by decide), up2_o _ _ _ _ (by decide), up2_o _ _ _ _ (by decide), hT.1 222 i (by decide) (Or.inl (by decide))]
    · exact if_neg c
  have e2 : up2 (rbI I1 i (mv i)) (tX i) 5 (W 222 i) = rbI I1 i (mv i) := by
    refine funext (fun o => funext (fun k => ?_))
    by_cases c : o = tX i ∧ k = 5
    · rw [c.1, c.2, up2_eq]
      unfold rbI
      rw [fiI_x (by omega), if_neg (by decide), if_neg (by decide), (hF (tX i) (fun z => by unfold nLg at z; omega)).2.2]
      exact (h.tx i hi).1.2.2.2.2.1.symm
    · exact if_neg c
  rw [e1, e2] at a
  exact a
/-- the reference can commit -/
theorem ER.cmOK (h : ER I S n N g lv mv q) (hi : i < n) (ho : S 221 i < 2) (hN : N < 16384) (hc : S 100 16 < 100000) (hab : N + (unM S i N).length < 16384) : CmOK S i := by
  have h44 := h.cnt.2.1
  have op : opS S n i := ⟨hi, ho⟩
  have rd := h.rd
  have r1 := rd.1 i hi
  refine ⟨⟨by omega, by omega⟩, ⟨h.sp.2.1.1, hc⟩, ⟨⟨r1.1, by omega⟩, rd.2.1⟩, h.lr.2, fun m t _ ht => ?_, ?_⟩
  · have C := (mCm_set (S := S) (i := i) (c := S 100 16 + 1) rfl (h.mb.pla i) (h.own i op).2.1 h.st.2.1 h.lr.2 m).1
    have a := (C.2.2.1 t (by omega) (by omega)).2
    have b := C.c16 (h.own i op).2.1 h.st.2.1 (t := (t : Int)) ⟨by omega, by omega⟩
    exact ⟨a, by omega⟩
  · rw [h44, show ((N : Int)).toNat = N by omega, (mAb_X (S := S) (i := (i : Int)) (N := N) N S N 0 (Nat.le_refl _) (Nat.le_refl _) h44 (fun r _ => ⟨rfl, rfl, rfl, rfl⟩)).1.2.1]
    omega
theorem trycommit_ex (hB : CB K P I n N g lq lv mv) (hE : ER I S n N g lv mv q) (hi : i < n) (h0 : S 221 i < 2) (hW : ∀ r : Nat, r < N → S 246 r = 0 → S 248 r < S 100 0) (hN : N < 16384) (hc : S 100 16 < 100000) (hab : N + (unM S i N).length < 16384) :
    ∃ (N' g' c z : Nat) (K' : KT) (P' : PT) (I' : IT), CB K' P' I' n N' g' lq lv mv ∧ ER I' (mCm1 S i) n N' g' lv mv q ∧ (c + g = g' ∧ z + lgP g = lgP g') ∧ (∀ j, j < n → I' (tX j) 14 = I (tX j) 14) ∧ Fr (nEn n) K P I K' P' I' ∧ CmOK S i ∧
      Sp m_Engine_tryCommit false ({ frames := 7, cells := c, slots := z, locals := 260 } : Room) (ex K' P' J I' (.inl (some (vI (if bI (mFail S i) = 1 then 3 else 0))))) K P J I [vR (some 1064), vR (some (tX i))] := by
  have hC := hB.c
  obtain ⟨hT, hNT, hN17⟩ := hB.t hi
  have n60 := hB.e.2.1
  have x0 : 2000 ≤ tX i ∧ tX i + 128 ≤ 10000 ∧ tX i + 128 ≤ 2000 + 128 * n := by unfold tX; omega
  have op : opS S n i := ⟨hi, h0⟩
  have ok := hE.cmOK hi h0 hN hc hab
  have st := stale_eq hE hi hNT
  have ov := over_eq hE op hW
  have hx := hT.k
  have hx0 := (hE.tx i hi).1.1
  have hR := hT.rows
  have hp := hT.pr
  have m15 := hB.lev i hi
  have spS := sp_Engine_hasStaleRead (J := J) hC hT hNT
  have spO := sp_Engine_overfills (J := J) (i := (i : Int)) hC hR (I := I)
  by_cases hf : mFail S i
  · have e1 : mCm1 S i = mAborts S i := if_pos (bI1 hf)
    rw [e1, bI1 hf, if_pos rfl]
    have eL := undL_eq (I := I) (S := S) (g := g) (i := (i : Int)) hE.lg.2 N (Nat.le_refl _)
    have lenL : (undL I g i N 0).length = (unM S i N).length := by rw [eL, List.length_map]
    obtain ⟨g', c, z, K', P', I1, ⟨v1, v2, v3, v4, v5⟩, f1, r1, x1, sp⟩ := rollback_ex (J := J) (u := 0) (by omega) hC hT hNT hx0 hB.v hB.l hE.lgR (hE.noUn op) (by rw [lenL]; exact hab)
    have fo : ∀ o, o ≠ tX i → o ≠ 1069 → rbI I1 i (mv i) o = I1 o := fun o a b => by unfold rbI; exact fiI_o a b _
    have fx : ∀ k, k ≠ 4 → k ≠ 6 → rbI I1 i (mv i) (tX i) k = I1 (tX i) k := fun k a d => by
      unfold rbI
      rw [fiI_x (by omega), if_neg d, if_neg a]
    have hF : ∀ o, ¬ nTx i o → ¬ nLg o → o ≠ 1069 → K' o = K o ∧ P' o = P o ∧ rbI I1 i (mv i) o = I o := fun o a b d => by
      obtain ⟨k1, k2, k3⟩ := f1 o b
      exact ⟨k1, k2, (fo o (fun z => a (by unfold nTx; omega)) d).trans k3⟩
    refine ⟨N + (unM S i N).length + 1, g', c, z, K', P', rbI I1 i (mv i), hB.tr hi v3 ⟨v1, ?_⟩ ⟨v4, v5.sc (fun k a _ d => fx k a d) (fun a a0 a1 => fo _ (by omega) (by omega)) m15, ?_⟩ (fun _ _ => ⟨rfl, rfl⟩) (fun o a b d => hF o a b (by omega)), out_abort0 hE hB.lev ⟨hB.g10, v1.2.2⟩ hi h0 hab x1 v2 f1, r1, fun j hj => ?_, fun o ho => hF o (fun z => ho (by unfold nTx at z; unfold nEn; omega)) (fun z => ho (by unfold nLg at z; unfold nEn; omega)) (fun z => ho (by unfold nEn; omega)), ok, ?_⟩
    · have := v2
      unfold LgN at *
      rw [fo 1192 (by omega) (by decide), ← lenL]; exact this
    · rw [fx 17 (by decide) (by decide), (f1 (tX i) (fun z => by unfold nLg at z; omega)).2.2]; exact hN17
    · by_cases e : j = i
      · rw [e, fx 14 (by decide) (by decide), (f1 (tX i) (fun z => by unfold nLg at z; omega)).2.2]
      · rw [fo (tX j) (by unfold tX at *; omega) (by unfold tX; omega), (f1 (tX j) (fun z => by unfold nLg tX at z; omega)).2.2]
    · refine Sp.ofV (by decide) (Or.inr rfl) rfl ?_
      refine VW.aload_n (pc' := 1) d_Engine_tryCommit_0 rfl rfl ?_
      refine VW.aload_n (pc' := 2) d_Engine_tryCommit_1 rfl rfl ?_
      refine VW.cV (ci := 0) (T := T0) (N := 8) (pc' := 5) d_Engine_tryCommit_2 rfl mv_Engine_hasStaleRead lk_Engine_185 rfl (by first | exact hC.k 9 rfl | exact hx | exact hR.1) rfl rfl rfl (by exact Nat.zero_le _) (by exact Nat.zero_le _) (spS) rfl rfl ?_
      refine VW.if_ne (tgt := 27) (pc' := 8) d_Engine_tryCommit_5 rfl rfl (fun c5 => ?_) (fun c5 => ?_)
      · try have e5 := bIn c5
        refine VW.iconst (pc' := 28) d_Engine_tryCommit_27 rfl (by decide) ?_
        refine VW.istore_n (pc' := 29) d_Engine_tryCommit_28 rfl rfl ?_
        refine VW.iload_n (pc' := 30) d_Engine_tryCommit_29 rfl rfl ?_
        refine VW.if_eq (tgt := 41) (pc' := 33) d_Engine_tryCommit_30 rfl rfl (fun _ => ?_) (fun c30 => absurd c30 (by decide))
        refine VW.aload_n (pc' := 42) d_Engine_tryCommit_41 rfl rfl ?_
        refine VW.aload_n (pc' := 43) d_Engine_tryCommit_42 rfl rfl ?_
        refine VW.cV (ci := 0) (T := T0) (N := 8) (pc' := 46) d_Engine_tryCommit_43 rfl mv_Engine_rollBack lk_Engine_114 rfl (by first | exact hC.k 9 rfl | exact hx | exact hR.1) rfl rfl rfl (by exact (show 0 + c ≤ c by omega)) (by exact (show 0 + z ≤ z by omega)) (sp) rfl rfl ?_
        refine VW.pop (pc' := 47) d_Engine_tryCommit_46 rfl rfl ?_
        refine VW.iload_n (pc' := 48) d_Engine_tryCommit_47 rfl rfl ?_
        refine VW.if_eq (tgt := 55) (pc' := 51) d_Engine_tryCommit_48 rfl rfl (fun _ => ?_) (fun c48 => absurd c48 (by decide))
        refine VW.iconst (pc' := 56) d_Engine_tryCommit_55 rfl (by decide) ?_
        exact VW.iret d_Engine_tryCommit_56 rfl rfl (by exact (show 0 + c ≤ c by omega)) (by exact (show 0 + z ≤ z by omega)) ex_rf
      · try have e5 := bIe c5
        refine VW.aload_n (pc' := 9) d_Engine_tryCommit_8 rfl rfl ?_
        refine VW.aload_n (pc' := 10) d_Engine_tryCommit_9 rfl rfl ?_
        refine VW.gI (ci := 8) (T := T8) (N := 19) (k := 0) (k' := 0) (pc' := 13) d_Engine_tryCommit_10 rfl lk_Engine_92 in8 rfl rfl rfl rfl (by first | exact hC.k 9 rfl | exact hx | exact hR.1) (by first | exact hx0 | exact hp | rfl) ?_
        refine VW.aload_n (pc' := 14) d_Engine_tryCommit_13 rfl rfl ?_
        refine VW.gP (ci := 8) (T := T8) (N := 19) (k := 3) (k' := 3) (pc' := 17) d_Engine_tryCommit_14 rfl lk_Engine_81 in8 rfl rfl rfl rfl (by first | exact hC.k 9 rfl | exact hx | exact hR.1) (by first | exact hx0 | exact hp | rfl) ?_
        refine VW.cV (ci := 0) (T := T0) (N := 8) (pc' := 20) d_Engine_tryCommit_17 rfl mv_Engine_overfills lk_Engine_188 rfl (by first | exact hC.k 9 rfl | exact hx | exact hR.1) rfl rfl rfl (by exact Nat.zero_le _) (by exact Nat.zero_le _) (spO) rfl rfl ?_
        refine VW.if_ne (tgt := 27) (pc' := 23) d_Engine_tryCommit_20 rfl rfl (fun c20 => ?_) (fun c20 => ?_)
        · try have e20 := bIn c20
          refine VW.iconst (pc' := 28) d_Engine_tryCommit_27 rfl (by decide) ?_
          refine VW.istore_n (pc' := 29) d_Engine_tryCommit_28 rfl rfl ?_
          refine VW.iload_n (pc' := 30) d_Engine_tryCommit_29 rfl rfl ?_
          refine VW.if_eq (tgt := 41) (pc' := 33) d_Engine_tryCommit_30 rfl rfl (fun _ => ?_) (fun c30 => absurd c30 (by decide))
          refine VW.aload_n (pc' := 42) d_Engine_tryCommit_41 rfl rfl ?_
          refine VW.aload_n (pc' := 43) d_Engine_tryCommit_42 rfl rfl ?_
          refine VW.cV (ci := 0) (T := T0) (N := 8) (pc' := 46) d_Engine_tryCommit_43 rfl mv_Engine_rollBack lk_Engine_114 rfl (by first | exact hC.k 9 rfl | exact hx | exact hR.1) rfl rfl rfl (by exact (show 0 + c ≤ c by omega)) (by exact (show 0 + z ≤ z by omega)) (sp) rfl rfl ?_
          refine VW.pop (pc' := 47) d_Engine_tryCommit_46 rfl rfl ?_
          refine VW.iload_n (pc' := 48) d_Engine_tryCommit_47 rfl rfl ?_
          refine VW.if_eq (tgt := 55) (pc' := 51) d_Engine_tryCommit_48 rfl rfl (fun _ => ?_) (fun c48 => absurd c48 (by decide))
          refine VW.iconst (pc' := 56) d_Engine_tryCommit_55 rfl (by decide) ?_
          exact VW.iret d_Engine_tryCommit_56 rfl rfl (by exact (show 0 + c ≤ c by omega)) (by exact (show 0 + z ≤ z by omega)) ex_rf
        · try have e20 := bIe c20
          refine VW.nrm ?_
          exact absurd hf (fun w => w.elim (fun w => (show ¬ stG I i (lv i) from fun y => absurd (bI1 y) (by omega)) (st.mpr w)) (fun w => (show ¬ ovG I i (tX i + 33) from fun y => absurd (bI1 y) (by omega)) (ov.mpr w)))
  · have e1 : mCm1 S i = mCmE S i := if_neg (by rw [bI0 hf]; decide)
    rw [e1, bI0 hf, if_neg (by decide)]
    have ns : ¬ stG I i (lv i) := fun w => hf (Or.inl (st.mp w))
    have no : ¬ ovG I i (tX i + 33) := fun w => hf (Or.inr (ov.mp w))
    rw [bI0 ns] at spS
    rw [bI0 no] at spO
    have hfit : ∀ t, 0 ≤ t → t < 6 → mSz S i t N ≤ 8 := fun t t0 t1 => by
      rw [← over_cnt hE op ⟨t0, t1⟩]
      exact Int.not_lt.mp (fun w => no ⟨t, t0, t1, w⟩)
    have sp7 := hE.sp.1.2.2
    have sp0 := hE.sp.2.1.1
    obtain ⟨g', c, z, K', P', I5, ⟨v1, v2, v3⟩, f1, r1, x1, sp⟩ := store_ex (J := J) (m := mv i) (l := lv i) (by omega) hC hT hNT hx0 hB.v hB.l hN (by rw [sp7]; exact ⟨sp0, hc⟩)
    obtain ⟨k1, k2, k3, k4, k5, k6, k7⟩ := stI_at (I := I) (i := i) (m := mv i) (by omega)
    have u2 : ∀ o, o ≠ 1192 → up2 I5 1192 1 ((N + 1 : Nat) : Int) o = I5 o := fun o a => funext (fun k => up2_o _ _ _ _ a)
    have uJ : ∀ o, ¬ nLg o → K' o = K o ∧ P' o = P o ∧ up2 I5 1192 1 ((N + 1 : Nat) : Int) o = stI I i (mv i) o := fun o a => ⟨(f1 o a).1, (f1 o a).2.1, (u2 o (fun z => a (Or.inl z))).trans (f1 o a).2.2⟩
    have own : ∀ k, k ≠ 4 → k ≠ 6 → up2 I5 1192 1 ((N + 1 : Nat) : Int) (tX i) k = I (tX i) k := fun k a b => by rw [(uJ (tX i) (by unfold nLg; omega)).2.2, k7, if_neg b, if_neg a]
    have hF : ∀ o, ¬ nLg o → ¬ (1064 ≤ o ∧ o < 1192) → o ≠ tX i → K' o = K o ∧ P' o = P o ∧ up2 I5 1192 1 ((N + 1 : Nat) : Int) o = I o := fun o a b d => by
      obtain ⟨y1, y2, y3⟩ := uJ o a
      exact ⟨y1, y2, y3.trans (k1 o (by omega) (by omega) (by omega) (by omega) (by omega) d)⟩
    refine ⟨N + 1, g', c, z, K', P', up2 I5 1192 1 ((N + 1 : Nat) : Int), hB.tr hi v3 ⟨v1, ?_⟩ ⟨hT.fl (fun o ho => ⟨(uJ o (lg_tx (by omega) ho)).1, (uJ o (lg_tx (by omega) ho)).2.1⟩), hNT.sc (fun k a _ d => own k a d) (fun a a0 a1 => (hF _ (by unfold nLg; omega) (by omega) (by omega)).2.2) m15, ?_⟩ (fun _ _ => ⟨rfl, rfl⟩) (fun o a b d => hF o b d (fun z => a (by unfold nTx; omega))), hE.commit hB.lev ⟨hB.g10, v1.2.2⟩ hi h0 hfit hN hNT f1 x1 v2, r1, fun j hj => ?_, fun o ho => hF o (fun z => ho (by unfold nLg at z; unfold nEn; omega)) (fun z => ho (by unfold nEn; omega)) (fun z => ho (by unfold nEn; omega)), ok, ?_⟩
    · have := v2
      unfold LgN at *
      rw [up2_k _ _ _ _ (by decide)]; exact this
    · rw [own 17 (by decide) (by decide)]; exact hN17
    · by_cases e : j = i
      · rw [e, own 14 (by decide) (by decide)]
      · rw [(hF (tX j) (by unfold nLg tX; omega) (by unfold tX; omega) (by unfold tX; omega)).2.2]
    · refine Sp.ofV (by decide) (Or.inr rfl) rfl ?_
      refine VW.aload_n (pc' := 1) d_Engine_tryCommit_0 rfl rfl ?_
      refine VW.aload_n (pc' := 2) d_Engine_tryCommit_1 rfl rfl ?_
      refine VW.cV (ci := 0) (T := T0) (N := 8) (pc' := 5) d_Engine_tryCommit_2 rfl mv_Engine_hasStaleRead lk_Engine_185 rfl (by first | exact hC.k 9 rfl | exact hx | exact hR.1) rfl rfl rfl (by exact Nat.zero_le _) (by exact Nat.zero_le _) (spS) rfl rfl ?_
      refine VW.if_ne (tgt := 27) (pc' := 8) d_Engine_tryCommit_5 rfl rfl (fun c5 => ?_) (fun c5 => ?_)
      case refine_1 => exact absurd c5 (by decide)
      refine VW.aload_n (pc' := 9) d_Engine_tryCommit_8 rfl rfl ?_
      refine VW.aload_n (pc' := 10) d_Engine_tryCommit_9 rfl rfl ?_
      refine VW.gI (ci := 8) (T := T8) (N := 19) (k := 0) (k' := 0) (pc' := 13) d_Engine_tryCommit_10 rfl lk_Engine_92 in8 rfl rfl rfl rfl (by first | exact hC.k 9 rfl | exact hx | exact hR.1) (by first | exact hx0 | exact hp | rfl) ?_
      refine VW.aload_n (pc' := 14) d_Engine_tryCommit_13 rfl rfl ?_
      refine VW.gP (ci := 8) (T := T8) (N := 19) (k := 3) (k' := 3) (pc' := 17) d_Engine_tryCommit_14 rfl lk_Engine_81 in8 rfl rfl rfl rfl (by first | exact hC.k 9 rfl | exact hx | exact hR.1) (by first | exact hx0 | exact hp | rfl) ?_
      refine VW.cV (ci := 0) (T := T0) (N := 8) (pc' := 20) d_Engine_tryCommit_17 rfl mv_Engine_overfills lk_Engine_188 rfl (by first | exact hC.k 9 rfl | exact hx | exact hR.1) rfl rfl rfl (by exact Nat.zero_le _) (by exact Nat.zero_le _) (spO) rfl rfl ?_
      refine VW.if_ne (tgt := 27) (pc' := 23) d_Engine_tryCommit_20 rfl rfl (fun c20 => ?_) (fun c20 => ?_)
      case refine_1 => exact absurd c20 (by decide)
      refine VW.iconst (pc' := 24) d_Engine_tryCommit_23 rfl (by decide) ?_
      refine VW.goto (pc' := 28) d_Engine_tryCommit_24 rfl ?_
      refine VW.istore_n (pc' := 29) d_Engine_tryCommit_28 rfl rfl ?_
      refine VW.iload_n (pc' := 30) d_Engine_tryCommit_29 rfl rfl ?_
      refine VW.if_eq (tgt := 41) (pc' := 33) d_Engine_tryCommit_30 rfl rfl (fun c30 => absurd c30 (by decide)) (fun _ => ?_)
      refine VW.aload_n (pc' := 34) d_Engine_tryCommit_33 rfl rfl ?_
      refine VW.aload_n (pc' := 35) d_Engine_tryCommit_34 rfl rfl ?_
      refine VW.cV (ci := 0) (T := T0) (N := 8) (pc' := 38) d_Engine_tryCommit_35 rfl mv_Engine_store lk_Engine_192 rfl (by first | exact hC.k 9 rfl | exact hx | exact hR.1) rfl rfl rfl (by exact (show 0 + c ≤ c by omega)) (by exact (show 0 + z ≤ z by omega)) (sp) rfl rfl ?_
      refine VW.goto (pc' := 47) d_Engine_tryCommit_38 rfl ?_
      refine VW.iload_n (pc' := 48) d_Engine_tryCommit_47 rfl rfl ?_
      refine VW.if_eq (tgt := 55) (pc' := 51) d_Engine_tryCommit_48 rfl rfl (fun c48 => absurd c48 (by decide)) (fun _ => ?_)
      refine VW.iconst (pc' := 52) d_Engine_tryCommit_51 rfl (by decide) ?_
      refine VW.goto (pc' := 56) d_Engine_tryCommit_52 rfl ?_
      exact VW.iret d_Engine_tryCommit_56 rfl rfl (by exact (show 0 + c ≤ c by omega)) (by exact (show 0 + z ≤ z by omega)) ex_rf
end
