/-! an attempt -/
section
variable {K : KT} {P : PT} {J I S : IT} {n N g lq i : Nat} {lv mv : Nat → Nat} {q q' : Int}
/-- what a trial leaves, of any kind -/
theorem TriP.al {A I2 : IT} {l l' m : Nat} {r : Option AV ⊕ String} (h : TriP A i l l' m r I2) : TxN I2 i l' m ∧ (∀ o, ¬ nAl i o → I2 o = A o) ∧ (∀ k, k ≠ 13 → k ≠ 14 → I2 (tX i) k = A (tX i) k) ∧ (I2 (tX i + 13) = A (tX i + 13) ∧ I2 (tX i + 33) = A (tX i + 33) ∧ I2 (tX i + 80 + m) = A (tX i + 80 + m)) ∧ I2 (tX i) 14 ≤ A (tX i) 14 + 5 := by
  have key : ∀ {W : Int → Prop} {Y : Int → Int → Prop} {cnt : Int} {ok : Prop} {Rw : IT → Prop}, cnt ≤ 5 → AlP A i l l' m W Y cnt ok Rw r I2 → TxN I2 i l' m ∧ (∀ o, ¬ nAl i o → I2 o = A o) ∧ (∀ k, k ≠ 13 → k ≠ 14 → I2 (tX i) k = A (tX i) k) ∧ (I2 (tX i + 13) = A (tX i + 13) ∧ I2 (tX i + 33) = A (tX i + 33) ∧ I2 (tX i + 80 + m) = A (tX i + 80 + m)) ∧ I2 (tX i) 14 ≤ A (tX i) 14 + 5 := fun hc h => by
    obtain ⟨a1, a2, a3, -, -⟩ := h
    exact ⟨a1, a2, a3.1, a3.2.2.1, by have := a3.2.1.2; omega⟩
  obtain ⟨a, b, c⟩ := h
  by_cases k0 : A (tX i) 7 = 0
  · exact key (by decide) (a k0)
  · by_cases k1 : A (tX i) 7 = 1
    · exact key (by decide) (b k1)
    · rcases c k0 k1 with ⟨-, w⟩ | ⟨-, G, -, -, w⟩
      · exact key (by decide) w
      · exact key (by decide) w
def AttE (K : KT) (P : PT) (J I S : IT) (n g lq : Nat) (lv mv : Nat → Nat) (i : Nat) (q' : Int) (S' : IT) : PE := fun r K' P' J' I' k z => r = .inl none ∧ J' = J ∧ TryP S i ∧ ∃ (N' g' : Nat) (lv' mv' : Nat → Nat), CB K' P' I' n N' g' lq lv' mv' ∧ ER I' S' n N' g' lv' mv' q' ∧ (k + pC g n lv mv = pC g' n lv' mv' ∧ z + pS g n lv mv = pS g' n lv' mv') ∧ (∀ j, j < n → I' (tX j) 14 ≤ I (tX j) 14 + (if j = i then 5 else 0)) ∧ Fr (nEn n) K P I K' P' I'
/-- the state once i's write has been tried -/
noncomputable def mTry1 (S : IT) (i : Int) : IT := up2 (mTriesI S i) 222 i (mTriesV S i)
/-- the bounds of the records, at a write -/
def RcB (W : IT) (i : Int) : Prop := ((mAb i (W 100 44).toNat W 0).1 100 44 < 16384 ∧ W 100 44 + W 100 41 ≤ 16384) ∧ ∀ x : Int, 0 ≤ x → x < 60 → W 225 x = -1 ∨ (0 ≤ W 225 x ∧ W 225 x < 60)
theorem attempt_ex (hB : CB K P I n N g lq lv mv) (hE : ER I S n N g lv mv q) (hi : i < n) (h0 : S 221 i = 0) (hp : PdE I S i) (h40 : S 233 i ≤ 2040) (hRc : mWantQ (up2 S 100 41 0) i → RcB (mWantI (up2 S 100 41 0) i) i) (hq : (S 233 i + 4 + 4 * n ≤ q' ∨ ∀ t y, YS S i t y → mRead S i t y) ∧ q ≤ q' ∧ q' ≤ 2048) (h14 : I (tX i) 14 ≤ 8186) : SpE m_Engine_attempt false ({ frames := 9, cells := 100, slots := 850000, locals := 420 } : Room) (AttE K P J I S n g lq lv mv i q' (mTry1 S i)) K P J I [vR (some 1064), vR (some (tX i))] := by
  have n60 := hB.e.2.1
  have x0 : 2000 ≤ tX i ∧ tX i + 128 ≤ 10000 ∧ tX i + 128 ≤ 2000 + 128 * n := by unfold tX; omega
  have hC := hB.c
  obtain ⟨hX, hN, hN17⟩ := hB.t hi
  have op : opS S n i := ⟨hi, by omega⟩
  have tx := hE.tx i hi
  have hsch := hE.sch
  have s6 := hsch.2.1
  have hUp : S 227 i = 1 → 0 ≤ I (tX i) 10 ∧ I (tX i) 10 < 4 := fun z => by
    obtain ⟨⟨-, a, -⟩, b, -⟩ := hp.2.2.2.2 z
    have := hE.mb.col (S 228 i)
    omega
  obtain ⟨l', ce, nn, K1, P1, v1, f1, r1, sp⟩ := allow_ex (J := J) hC hX hN (SchB.of2 hsch.1 hsch.2) (by rw [hp.1.2, hsch.1.1]; exact hp.2.1) (fun z => hUp (by rw [← hp.1.1]; exact z)) (by omega)
  have lb := v1.2.2.2.2.1
  have pb := ps_le lb
  have hTH : TriH I S i (lv i) (S 223 i) := ⟨hsch, (hE.own i op).1, (hE.own i op).2, ⟨rfl, tx.1.2.1⟩, hp, tx.2, ⟨(hE.rd.1 i hi).1, h40⟩, fun t => (hE.mb.col t).2⟩
  obtain ⟨lv1, m1, m2⟩ : ∃ f : Nat → Nat, f i = l' ∧ ∀ j, j ≠ i → f j = lv j := ⟨fun j => if j = i then l' else lv j, if_pos rfl, fun j h => if_neg h⟩
  have c1 := pC_upd (g := g) (g' := g) (lv := lv) (mv := mv) (lv' := lv1) (mv' := mv) hi (fun j h => ⟨m2 j h, rfl⟩)
  have c2 := pS_upd (g := g) (g' := g) (lv := lv) (mv := mv) (lv' := lv1) (mv' := mv) hi (fun j h => ⟨m2 j h, rfl⟩)
  rw [m1] at c1 c2
  refine SpE.ofV (by decide) (Or.inr rfl) rfl ?_
  -- behind the trial
  have rest : ∀ I2, TriP (alI I i) i (lv i) l' (mv i) (.inl (some (vI (bI (mWantQ (up2 S 100 41 0) i))))) I2 → VE m_Engine_attempt false ({ frames := 9, cells := 100, slots := 850000, locals := 420 } : Room) (AttE K P J I S n g lq lv mv i q' (mTry1 S i)) K1 P1 J I2 ce nn 8 [(0, vR (some 1064)), (1, vR (some (tX i)))] [vI (bI (mWantQ (up2 S 100 41 0) i))] := by
    intro I2 hTri
    have hR := tri_all hTH hTri
    obtain ⟨t1, t2, t3, ⟨t4, t5, t6⟩, t7⟩ := hTri.al
    have ao : ∀ o, 2000 ≤ o → alI I i o = I o := fun o h => alI_o (by omega) (by omega)
    rw [ao _ (by omega)] at t4 t7
    rw [ao _ (by omega)] at t5
    rw [ao _ (by omega)] at t6
    have t3' : ∀ k, k ≠ 13 → k ≠ 14 → I2 (tX i) k = I (tX i) k := fun k a b => by rw [t3 k a b, ao _ (by omega)]
    have hF : ∀ o, ¬ nAl i o → I2 o = I o := fun o h => (t2 o h).trans (alI_o (fun z => h (by unfold nAl; omega)) (fun z => h (by unfold nAl; omega)))
    obtain ⟨-, hRd, ⟨Wt, hMr⟩, hOK⟩ := hR
    have E1 := hE.tri (l' := l') (m := mv i) hB.lev hB.g10 op ⟨hp.2.1.1, by have := hp.2.1.2; omega⟩ hF ⟨t3', t4, t5, t6⟩ hRd hMr hq
    have elv : (fun j => if j = i then l' else lv j) = lv1 := funext (fun j => by
      by_cases e : j = i
      · rw [if_pos e, e, m1]
      · rw [if_neg e, m2 j e])
    rw [elv] at E1
    have fW : ∀ o k, (o < 233 ∨ 243 < o) → (o ≠ 100 ∨ k ≠ 41) → mWantI (up2 S 100 41 0) i o k = S o k := wantFr
    have fR := hRc
    have eT1 : bI (mWantQ (up2 S 100 41 0) i) = 0 → mTry1 S i = up2 (mWantI (up2 S 100 41 0) i) 222 i 2 := fun z => by
      unfold mTry1
      rw [(mTries_0 z).1, (mTries_0 z).2]
    have eT2 : bI (mWantQ (up2 S 100 41 0) i) ≠ 0 → mTry1 S i = up2 (mTryI (mWantI (up2 S 100 41 0) i) i) 222 i (mTryV (mWantI (up2 S 100 41 0) i) i) := fun z => by
      unfold mTry1
      rw [(mTries_1 z).1, (mTries_1 z).2]
    have hpW : PdE I2 (mWantI (up2 S 100 41 0) i) i ∧ ∀ t y, YS (mWantI (up2 S 100 41 0) i) i t y → mRead (mWantI (up2 S 100 41 0) i) i t y := by
      have fo : ∀ o, (o < 233 ∨ 243 < o) → o ≠ 100 → mWantI (up2 S 100 41 0) i o = S o := fun o a b => funext (fun k => fW o k a (Or.inl b))
      refine ⟨hp.of ⟨fun k a b => t3' k (by omega) (by omega), t4⟩ (fun o a b => fo o (by omega) (by omega)) (fo 201 (by decide) (by decide)) (fW 100 0 (by decide) (Or.inr (by decide))), fun t y hy => ?_⟩
      have hy' := (YS_of (S := S) (fun o a b => fo o (by omega) (by omega)) (fo 201 (by decide) (by decide)) (fo 206 (by decide) (by decide)) t y).mp hy
      have rg := YS_rg ⟨hp.2.1.1, by have := hp.2.1.2; omega⟩ hsch.2.2.2.2.2.2.2.2.2 hy'
      exact (hMr.2.1 t y rg.1 rg.2).mpr (Or.inr (Or.inr hy'))
    generalize hWW : mWantI (up2 S 100 41 0) i = W at *
    have h0W : W 221 i = 0 := (fW 221 i (by decide) (Or.inl (by decide))).trans h0
    have C1 : ClW K1 P1 := hC.tx (show Fr (nTx i) K P I K1 P1 I from fun o ho => ⟨(f1 o ho).1, (f1 o ho).2, rfl⟩)
    have B1 : CB K1 P1 I2 n N g lq lv1 mv := hB.tr hi C1 ⟨hB.v.of (fun o ho => f1 o (fun z => by unfold nTx at z; omega)), ?_⟩ ⟨by rw [m1]; exact v1, by rw [m1]; exact t1, by rw [t3' 17 (by decide) (by decide)]; exact hN17⟩ (fun j h => ⟨m2 j h, rfl⟩) (fun o a b d => ⟨(f1 o a).1, (f1 o a).2, hF o (fun z => z.elim a (fun z => d (by omega)))⟩)
    case refine_1 =>
      have := hB.l
      unfold LgN at *
      rw [hF 1192 (fun z => by unfold nAl nTx at z; omega)]
      exact this
    have pc := (ps_cap t1 (by omega)).2
    have hcs : ce ≤ 40 ∧ nn ≤ 60000 := by omega
    have tP : (mWantQ (up2 S 100 41 0) i → TrOK W i) → TryP S i := fun h => ⟨hE.mb, ⟨by omega, by omega⟩, ⟨hp.2.1.1, by have := hp.2.1.2; omega⟩, fun z => by
      obtain ⟨-, b, -⟩ := hp.2.2.2.2 z
      have := hE.mb.col (S 228 i)
      omega, ⟨(hE.rd.1 i hi).1, h40⟩, fun z => by rw [hWW]; exact h z⟩
    have key : TryP S i → EndK (AttE K P J I S n g lq lv mv i q' (mTry1 S i)) K1 P1 J I2 n g lq lv1 mv q' ce nn (mTry1 S i) := by
      intro hTP K' P' I' c z N' g' lv' mv' b1 b2 b3 b4 b5
      refine ⟨rfl, rfl, hTP, N', g', lv', mv', b1, b2, ⟨by omega, by omega⟩, fun j hj => ?_, fun o ho => ?_⟩
      · rw [b4 j hj]
        by_cases e : j = i
        · rw [if_pos e, e]; exact t7
        · rw [if_neg e, hF _ (fun z => by unfold nAl nTx tX at z; omega)]; omega
      · obtain ⟨k1, k2, k3⟩ := b5 o ho
        have ha : ¬ nTx i o := fun z => ho (by unfold nTx at z; unfold nEn; omega)
        exact ⟨k1.trans (f1 o ha).1, k2.trans (f1 o ha).2, k3.trans (hF o (fun z => z.elim ha (fun z => ho (by unfold nEn; omega))))⟩
    have T1 := v1.k
    by_cases hw : bI (mWantQ (up2 S 100 41 0) i) = 0
    · refine VE.if_ne (tgt := 17) (pc' := 11) d_Engine_attempt_8 rfl rfl (fun c8 => ?_) (fun c8 => ?_)
      case refine_1 => exact absurd c8 (fun z => z hw)
      refine VE.nrm ?_
      replace key := key (tP (fun z => absurd (bI1 z) (by rw [hw]; decide)))
      exact att_ref B1 E1 hi h0W (by rw [eT1 hw] at key; rw [eT1 hw]; exact key) hcs
    · have eT := eT2 hw
      rw [eT] at key ⊢
      have hQ1 : mWantQ (up2 S 100 41 0) i := bIn hw
      obtain ⟨k0, ⟨e41, k48, e7, eL⟩, hr, -, -, hin, hup, hde⟩ := hOK hQ1
      obtain ⟨⟨ab0, dn⟩, wf60⟩ := fR hQ1
      have h44 := E1.cnt.2.1
      have ab : N + (unM W i N).length < 16384 := by
        have := ab0
        rw [h44, show ((N : Int)).toNat = N by omega, (mAb_X (S := W) (i := (i : Int)) (N := N) N W N 0 (Nat.le_refl _) (Nat.le_refl _) h44 (fun r _ => ⟨rfl, rfl, rfl, rfl⟩)).1.2.1] at this
        omega
      have ht : ∀ j : Int, 0 ≤ j → j < k0 → 0 ≤ I2 1102 j ∧ I2 1102 j < 6 := fun j j0 j1 => by
        have jk : j.toNat < k0 := by omega
        have := trL_get (I := I2) jk
        rw [show ((j.toNat : Nat) : Int) = j by omega, eL] at this
        exact (hr _ (List.mem_of_getElem? this)).1
      have eo := oth_eq E1 (i := i) eL hr
      have ek : (W 100 41).toNat = k0 := by omega
      have blk := fun z => blk_rg (i := (i : Int)) E1 eL hr z
      have late := late_eq E1 hi e41 eL hr
      have chn := fun {b : Int} (hb : 0 ≤ b ∧ b < n) => chain_eq (I := I2) n60 E1.wf E1.ac (fun j hj => (E1.tx j hj).1.2.2.2.2.2) (i := (i : Int)) ⟨by omega, by omega⟩ hb
      have hx0 : I2 (tX i) 0 = i := (E1.tx i hi).1.1
      have spW := sp_Engine_firstOtherWriter (J := J) (i := (i : Int)) C1 ⟨e7, k48⟩ ht
      generalize hbb : owF I2 i k0 = b at *
      have hm : mOth W i (W 100 41).toNat = b := by rw [ek]; exact eo.symm
      have tr : TrOK W i := by
        have f27 := fW 227 i (by decide) (Or.inl (by decide))
        have f28 := fW 228 i (by decide) (Or.inl (by decide))
        have f23 := fW 223 i (by decide) (Or.inl (by decide))
        refine ⟨⟨by omega, by omega⟩, fun j j0 j1 => ?_, ⟨by omega, by have := E1.cnt.2.2.2; omega⟩, fun j j0 j1 h46 => ?_, wf60, ?_, ab0, ⟨by rw [f28]; exact hp.2.1.1, by rw [f28]; have := hp.2.1.2; omega⟩, dn, fun z => by rw [f23, f28]; exact hin (f27.symm.trans z), fun z => by rw [f23, f28, fW 229 i (by decide) (Or.inl (by decide)), fW 230 i (by decide) (Or.inl (by decide))]; exact hup (f27.symm.trans z), fun z1 z2 => by rw [f23]; exact hde (by rw [← f27]; exact z1) (by rw [← f27]; exact z2)⟩
        · have jk : j.toNat < k0 := by omega
          have := wtL_get (W := W) jk
          rw [show ((j.toNat : Nat) : Int) = j by omega] at this
          exact hr _ (List.mem_of_getElem? this)
        · have := (E1.lr.1 j j0 (by omega)).2 (by omega)
          omega
        · rw [hm]
          by_cases hb1 : b = -1
          · rw [mCh_end (Or.inl hb1)]; exact Or.inl hb1
          · exact (chn (blk hb1)).2
      replace key := key (tP (fun _ => tr))
      have vic : b ≠ -1 → mCh W i 60 b = i → VE m_Engine_attempt false ({ frames := 9, cells := 100, slots := 850000, locals := 420 } : Room) (AttE K P J I S n g lq lv mv i q' (up2 (mTryI W i) 222 i (mTryV W i))) K1 P1 J I2 ce nn 43 [(0, vR (some 1064)), (1, vR (some (tX i))), (2, vI b)] [] := fun h1 h2 => by
        have e := mTry_vict (by rw [hm]; exact h1) (by rw [hm]; exact h2)
        rw [e.1, e.2] at key ⊢
        exact att_vict B1 E1 hi h0W ab key hcs
      have wai : b ≠ -1 → mCh W i 60 b ≠ i → VE m_Engine_attempt false ({ frames := 9, cells := 100, slots := 850000, locals := 420 } : Room) (AttE K P J I S n g lq lv mv i q' (up2 (mTryI W i) 222 i (mTryV W i))) K1 P1 J I2 ce nn 62 [(0, vR (some 1064)), (1, vR (some (tX i))), (2, vI b)] [] := fun h1 h2 => by
        have e := mTry_wait (W := W) (i := i) (by rw [hm]; exact h1) (by rw [hm]; exact h2)
        rw [hm] at e
        rw [e.1, e.2] at key ⊢
        exact att_wait B1 E1 hi h0W (blk h1) h2 hpW key hcs
      have lat : b = -1 → mLate W i → VE m_Engine_attempt false ({ frames := 9, cells := 100, slots := 850000, locals := 420 } : Room) (AttE K P J I S n g lq lv mv i q' (up2 (mTryI W i) 222 i (mTryV W i))) K1 P1 J I2 ce nn 88 [(0, vR (some 1064)), (1, vR (some (tX i))), (2, vI b)] [] := fun h1 h2 => by
        have e := mTry_late (by rw [hm]; exact h1) h2
        rw [e.1, e.2] at key ⊢
        exact att_late B1 E1 hi h0W ab key hcs
      have don : b = -1 → ¬ mLate W i → VE m_Engine_attempt false ({ frames := 9, cells := 100, slots := 850000, locals := 420 } : Room) (AttE K P J I S n g lq lv mv i q' (up2 (mTryI W i) 222 i (mTryV W i))) K1 P1 J I2 ce nn 102 [(0, vR (some 1064)), (1, vR (some (tX i))), (2, vI b)] [] := fun h1 h2 => by
        have e := mTry_done (by rw [hm]; exact h1) h2
        rw [e.1, e.2] at key ⊢
        exact att_done B1 E1 hi h0W fW (hOK hQ1) (fun k hk => by rw [show k = k0 by omega, hbb]; exact h1) dn key hcs
      have at57 : (b = -1 ∨ mCh W i 60 b ≠ i) → VE m_Engine_attempt false ({ frames := 9, cells := 100, slots := 850000, locals := 420 } : Room) (AttE K P J I S n g lq lv mv i q' (up2 (mTryI W i) 222 i (mTryV W i))) K1 P1 J I2 ce nn 57 [(0, vR (some 1064)), (1, vR (some (tX i))), (2, vI b)] [] := fun hb => by
        refine VE.iload_n (pc' := 58) d_Engine_attempt_57 rfl rfl ?_
        refine VE.iconst (pc' := 59) d_Engine_attempt_58 rfl (by decide) ?_
        refine VE.icmp_eq (tgt := 80) (pc' := 62) d_Engine_attempt_59 rfl rfl (fun c59 => ?_) (fun c59 => ?_)
        · refine VE.aload_n (pc' := 81) d_Engine_attempt_80 rfl rfl ?_
          refine VE.aload_n (pc' := 82) d_Engine_attempt_81 rfl rfl ?_
          refine VE.cV (ci := 0) (T := T0) (N := 8) (pc' := 85) d_Engine_attempt_82 rfl mv_Engine_isOvertaken lk_Engine_124 rfl (by first | exact C1.k 9 rfl | exact T1) rfl rfl rfl (by show ce + 0 ≤ (100 : Nat); omega) (by show nn + 0 ≤ (850000 : Nat); omega) (sp_Engine_isOvertaken C1 T1 ⟨e7, k48⟩ ht) rfl rfl ?_
          refine VE.if_eq (tgt := 102) (pc' := 88) d_Engine_attempt_85 rfl rfl (fun c85 => ?_) (fun c85 => ?_)
          · try have e85 := bIe c85
            refine VE.nrm ?_
            exact don c59 (fun z => e85 (late.mpr z))
          · try have e85 := bIn c85
            refine VE.nrm ?_
            exact lat c59 (late.mp e85)
        · refine VE.nrm ?_
          exact wai c59 (hb.resolve_left c59)
      refine VE.if_ne (tgt := 17) (pc' := 11) d_Engine_attempt_8 rfl rfl (fun c8 => ?_) (fun c8 => ?_)
      case refine_2 => exact absurd c8 (hw)
      refine VE.aload_n (pc' := 18) d_Engine_attempt_17 rfl rfl ?_
      refine VE.aload_n (pc' := 19) d_Engine_attempt_18 rfl rfl ?_
      refine VE.gI (ci := 8) (T := T8) (N := 19) (k := 0) (k' := 0) (pc' := 22) d_Engine_attempt_19 rfl lk_Engine_92 in8 rfl rfl rfl rfl (by first | exact C1.k 9 rfl | exact T1) (by first | exact hx0 | rfl) ?_
      refine VE.cV (ci := 0) (T := T0) (N := 8) (pc' := 25) d_Engine_attempt_22 rfl mv_Engine_firstOtherWriter lk_Engine_106 rfl (by first | exact C1.k 9 rfl | exact T1) rfl rfl rfl (by show ce + 0 ≤ (100 : Nat); omega) (by show nn + 0 ≤ (850000 : Nat); omega) (spW) rfl rfl ?_
      refine VE.istore_n (pc' := 26) d_Engine_attempt_25 rfl rfl ?_
      refine VE.iload_n (pc' := 27) d_Engine_attempt_26 rfl rfl ?_
      refine VE.iconst (pc' := 28) d_Engine_attempt_27 rfl (by decide) ?_
      refine VE.icmp_eq (tgt := 57) (pc' := 31) d_Engine_attempt_28 rfl rfl (fun c28 => ?_) (fun c28 => ?_)
      · refine VE.nrm ?_
        first | exact at57 (Or.inl c28) | exact at57 (Or.inr (fun z => e40 ((chn (blk c28)).1.mpr z)))
      · refine VE.aload_n (pc' := 32) d_Engine_attempt_31 rfl rfl ?_
        refine VE.iload_n (pc' := 33) d_Engine_attempt_32 rfl rfl ?_
        refine VE.aload_n (pc' := 34) d_Engine_attempt_33 rfl rfl ?_
        refine VE.gI (ci := 8) (T := T8) (N := 19) (k := 0) (k' := 0) (pc' := 37) d_Engine_attempt_34 rfl lk_Engine_92 in8 rfl rfl rfl rfl (by first | exact C1.k 9 rfl | exact T1) (by first | exact hx0 | rfl) ?_
        refine VE.cV (ci := 0) (T := T0) (N := 8) (pc' := 40) d_Engine_attempt_37 rfl mv_Engine_endsWaitingFor lk_Engine_110 rfl (by first | exact C1.k 9 rfl | exact T1) rfl rfl rfl (by show ce + 0 ≤ (100 : Nat); omega) (by show nn + 0 ≤ (850000 : Nat); omega) (sp_Engine_endsWaitingFor C1 B1.e) rfl rfl ?_
        refine VE.if_eq (tgt := 57) (pc' := 43) d_Engine_attempt_40 rfl rfl (fun c40 => ?_) (fun c40 => ?_)
        · try have e40 := bIe c40
          refine VE.nrm ?_
          first | exact at57 (Or.inl c28) | exact at57 (Or.inr (fun z => e40 ((chn (blk c28)).1.mpr z)))
        · try have e40 := bIn c40
          refine VE.nrm ?_
          exact vic c28 ((chn (blk c28)).1.mp e40)
  refine VE.aload_n (pc' := 1) d_Engine_attempt_0 rfl rfl ?_
  refine VE.gP (ci := 0) (T := T0) (N := 8) (k := 0) (k' := 0) (pc' := 4) d_Engine_attempt_1 rfl lk_Engine_47 in0 rfl rfl rfl rfl (by first | exact hC.k 9 rfl | exact hC.k 13 rfl) (by first | exact hC.p 15 rfl | rfl) ?_
  refine VE.aload_n (pc' := 5) d_Engine_attempt_4 rfl rfl ?_
  refine VE.cVq (ci := 9) (T := T9) (N := 8) (pc' := 8) d_Engine_attempt_5 rfl mv_Trial_allows lk_Engine_99 rfl (by first | exact hC.k 9 rfl | exact hC.k 13 rfl) rfl rfl rfl (by show 0 + ce ≤ (100 : Nat); omega) (by show 0 + nn ≤ (850000 : Nat); omega) (sp) rfl rfl (fun r K2 P2 J2 I2 hz => ?_)
  obtain ⟨z1, z2, z3, z4⟩ := hz
  subst z1; subst z2; subst z3
  have z5 := (tri_all hTH z4).1
  rw [z5] at z4
  rw [Sum.inl.inj z5, Nat.zero_add, Nat.zero_add]
  exact rest I2 z4
end
