/-! RowForge.commit, where it may be called -/
section
variable {K K' : KT} {P P' : PT} {J I I' S S' : IT} {n N g lq i nq lqq nv l3 l4 : Nat} {lv mv : Nat → Nat} {q : Int} {Z : Int → IT → Prop} {X Y : Nat}
theorem LsV.fr {o b l m ci : Nat} (h : LsV K P I o b l m ci) (e : ∀ x, (x = o ∨ x = 999 ∨ (b ≤ x ∧ x < b + 20)) → K' x = K x ∧ P' x = P x ∧ I' x = I x) (el : ∀ j q, 0 ≤ j → j < (m : Int) → P (ldn b l) j = some q → ∃ z, K' q = some (ci, z)) : LsV K' P' I' o b l m ci := by
  obtain ⟨⟨a1Z, a2, a3⟩, b1, c1Z, d1Z, e1Z⟩ := h
  have ho := e o (Or.inl rfl)
  have hdZ : K' (ldn b l) = K (ldn b l) ∧ P' (ldn b l) = P (ldn b l) := by
    unfold ldn
    split
    · exact ⟨(e 999 (Or.inr (Or.inl rfl))).1, (e 999 (Or.inr (Or.inl rfl))).2.1⟩
    · have := e (b + l) (Or.inr (Or.inr (by omega)))
      exact ⟨this.1, this.2.1⟩
  exact ⟨⟨by rw [ho.1]; exact a1Z, by rw [ho.2.1]; exact a2, by rw [hdZ.1]; exact a3⟩, fun j j0 j1 => by rw [(e (b + j) (Or.inr (Or.inr (by omega)))).1]; exact b1 j j0 j1, c1Z, by rw [ho.2.2]; exact d1Z, fun j q j0 j1 hq => el j q j0 j1 (by rw [← hdZ.2]; exact hq)⟩
theorem QuW.fr2 {x : Nat} (h : QuW K P x) (e : ∀ a, a < 32 → K' (x + a) = K (x + a)) (ep : P' x = P x) : QuW K' P' x := QuW.fr h ep (fun j hj => e j hj)
/-- names that the queries and views are in -/
def nQv (o : Nat) : Prop := o = 999 ∨ o = 1480 ∨ o = 1512 ∨ o = 1544 ∨ (10000 ≤ o ∧ o < 12000) ∨ (12200 ≤ o ∧ o < 12420)
theorem ld_in {b l : Nat} (h : l < 12) : ldn b l = 999 ∨ (b ≤ ldn b l ∧ ldn b l < b + 20) := by
  unfold ldn
  split
  · exact Or.inl rfl
  · exact Or.inr ⟨by omega, by omega⟩
theorem QnL.frm (h : QnL K P I nq lqq) (e : ∀ o, nQv o → K' o = K o ∧ P' o = P o) (eI : I' 1480 = I 1480 ∧ I' 999 = I 999 ∧ ∀ o, 12200 ≤ o → o < 12220 → I' o = I o) : QnL K' P' I' nq lqq := by
  have h20 := h.2.1
  have qw : ∀ j, j < nq → QuW K' P' (qX j) := fun j hj => (h.2.2 j hj).2.fr2 (fun aZ ha => (e _ (by unfold nQv qX; omega)).1) (e _ (by unfold nQv qX; omega)).2
  have ld := ld_in (b := 12200) h.1.2.2.1
  have hdZ : P' (ldn 12200 lqq) = P (ldn 12200 lqq) := (e _ (by unfold nQv; omega)).2
  refine ⟨h.1.fr (fun x hx => ?_) (fun j y j0 j1 hy => ?_), h20, fun j hj => ⟨by rw [hdZ]; exact (h.2.2 j hj).1, qw j hj⟩⟩
  · have := e x (by unfold nQv; omega)
    refine ⟨this.1, this.2, ?_⟩
    rcases hx with rfl | rfl | ⟨aZ, bZ⟩
    · exact eI.1
    · exact eI.2.1
    · exact eI.2.2 x aZ bZ
  · have := (h.2.2 j.toNat (by omega)).1
    rw [show ((j.toNat : Nat) : Int) = j by omega, hy] at this
    rw [Option.some.inj this]
    exact ⟨0, (qw j.toNat (by omega)).k⟩
theorem VnL.frm (h : VnL K P I S nv l3 l4) (hQ : QnL K P I nq lqq) (hS : S' 269 = S 269) (hv : ∀ j : Nat, j < nv → 0 ≤ S 269 j ∧ S 269 j < nq) (e : ∀ o, nQv o → K' o = K o ∧ P' o = P o) (eI : I' 1512 = I 1512 ∧ I' 1544 = I 1544 ∧ I' 999 = I 999 ∧ ∀ o, 12300 ≤ o → o < 12420 → I' o = I o) : VnL K' P' I' S' nv l3 l4 := by
  have h20 := hQ.2.1
  have n6Z := h.2.1
  have ld3 := ld_in (b := 12300) h.1.1.2.2.1
  have ld4 := ld_in (b := 12400) h.1.2.2.2.1
  have hd3 : P' (ldn 12300 l3) = P (ldn 12300 l3) := (e _ (by unfold nQv; omega)).2
  have hd4 : P' (ldn 12400 l4) = P (ldn 12400 l4) := (e _ (by unfold nQv; omega)).2
  have rw5 : ∀ j, j < nv → ReW K' P' (vX j) (vX j + 1) 5120 := fun j hj => by
    have := (h.2.2 j hj).2.2
    have e1Z := e (vX j) (by unfold nQv vX; omega)
    have e2Z := e (vX j + 1) (by unfold nQv vX; omega)
    unfold ReW at *
    rw [e1Z.1, e1Z.2, e2Z.1]; exact this
  refine ⟨⟨h.1.1.fr (fun x hx => ?_) (fun j y j0 j1 hy => ?_), h.1.2.fr (fun x hx => ?_) (fun j y j0 j1 hy => ?_)⟩, n6Z, fun j hj => ⟨by rw [hd3, hS]; exact (h.2.2 j hj).1, by rw [hd4]; exact (h.2.2 j hj).2.1, rw5 j hj⟩⟩
  · have := e x (by unfold nQv; omega)
    refine ⟨this.1, this.2, ?_⟩
    rcases hx with rfl | rfl | ⟨aZ, bZ⟩
    · exact eI.1
    · exact eI.2.2.1
    · exact eI.2.2.2 x aZ (by omega)
  · have aZ := (h.2.2 j.toNat (by omega)).1
    rw [show ((j.toNat : Nat) : Int) = j by omega, hy] at aZ
    have bZ := hv j.toNat (by omega)
    rw [show ((j.toNat : Nat) : Int) = j by omega] at bZ
    rw [Option.some.inj aZ, (e _ (by unfold nQv qX; omega)).1]
    exact ⟨0, (hQ.2.2 _ (by omega)).2.k⟩
  · have := e x (by unfold nQv; omega)
    refine ⟨this.1, this.2, ?_⟩
    rcases hx with rfl | rfl | ⟨aZ, bZ⟩
    · exact eI.2.1
    · exact eI.2.2.1
    · exact eI.2.2.2 x (by omega) bZ
  · have aZ := (h.2.2 j.toNat (by omega)).2.1
    rw [show ((j.toNat : Nat) : Int) = j by omega, hy] at aZ
    rw [Option.some.inj aZ]
    exact ⟨0, (rw5 j.toNat (by omega)).1⟩
theorem EvW.frm (h : EvW K P) (e : ∀ o, nEv o → K' o = K o ∧ P' o = P o) : EvW K' P' := by
  obtain ⟨eNZ, s1Z, s2Z⟩ := h
  refine ⟨eNZ, ?_, s2Z⟩
  have e1Z := e 1224 (by unfold nEv; omega)
  have e2Z := e 1226 (by unfold nEv; omega)
  unfold StW ReW at *
  rw [e1Z.1, e1Z.2, e2Z.1, e2Z.2]
  refine ⟨s1Z.1, s1Z.2.1, s1Z.2.2.1, fun j hj => ?_, s1Z.2.2.2.2⟩
  rw [(e (eNZ j) (s2Z j hj).1.ev).1, (e (eNZ j) (s2Z j hj).1.ev).2, (e (eNZ j + 1) (s2Z j hj).2.ev).1]
  exact s1Z.2.2.2.1 j hj
theorem nEn_no {n o : Nat} (hn : n ≤ 60) (h : nEv o ∨ nQv o ∨ o = 1416 ∨ o = 1417) : ¬ nEn n o := by
  unfold nEv nQv at h
  unfold nEn
  omega
/-- the ends of a commit -/
def ComE (Z : Int → IT → Prop) (K : KT) (P : PT) (J I S : IT) (n g lq i nv : Nat) (lv mv : Nat → Nat) (q : Int) : PE := fun r K' P' J' I' c z => J' = J ∧ CmOK S i ∧ ∃ (m' N' g' : Nat) (lv' mv' : Nat → Nat), r = .inl (some (vI (if bI (mFail S i) = 1 then 3 else 0))) ∧ CB K' P' I' n N' g' lq lv' mv' ∧ ER I' (mSettle m' (mCm1 S i)) n N' g' lv' mv' q ∧ SetOK m' (mCm1 S i) ∧ Z (-1) (mSettle m' (mCm1 S i)) ∧ (c + pC g n lv mv = pC g' n lv' mv' ∧ z + pS g n lv mv = pS g' n lv' mv') ∧ (∀ j, j < n → I' (tX j) 14 + 5 * mM (mSettle m' (mCm1 S i)) n ≤ I (tX j) 14 + 5 * mM S n) ∧ EvW K' P' ∧ (∀ o, ¬ nEn n o → ¬ nEv o → ¬ nVr o → K' o = K o ∧ P' o = P o ∧ I' o = I o) ∧ (∀ o, nVr o → K' o = K o ∧ P' o = P o) ∧ (mFail S i → ∀ o, nVr o → I' o = I o) ∧ (¬ mFail S i → ∀ j : Nat, j < nv → ∃ w M, VwC (mSettle m' (mCm1 S i)) (S 269 j) w M ∧ RelR I' (vX j) (vX j + 1) w M)
theorem cm_meas (hE : ER I S n N g lv mv q) (hi : i < n) (h0 : S 221 i < 2) (hN : S 100 44 = N) : mM (mCm1 S i) n ≤ mM S n := by
  have yZ : (∀ j : Int, j ≠ i → mCm1 S i 221 j = S 221 j) ∧ 2 ≤ mCm1 S i 221 i := by
    unfold mCm1
    by_cases hf : bI (mFail S i) = 1
    · rw [if_pos hf]
      obtain ⟨aZ, bZ⟩ := ab_cls (S := S) (i := i) hN
      exact ⟨aZ, by omega⟩
    · rw [if_neg hf]
      have hr : ∀ j : Int, S 246 j = 0 → 0 ≤ S 248 j := fun j h => (hE.lr.2 j h).1.1
      have eZ : ∀ j : Int, mnotes (mCmI S i) 1 i (-2147483648) (-2147483648) 221 j = S 221 j := fun j => (mnotes_fr 221 j (by omega) (by omega)).trans ((mCm_fr (S := up2 S 100 16 (S 100 16 + 1)) (fun j z => by rw [up2_o _ _ _ _ (by decide)] at z ⊢; exact hr j z) _ 221 j (by omega) (by decide) (by decide) (by decide)).trans (up2_o _ _ _ _ (by decide)))
      unfold mCmE mends
      refine ⟨fun j hj => ?_, ?_⟩
      · rw [up2_o _ _ _ _ (by decide), up2_o _ _ _ _ (by decide), up2_k _ _ _ _ hj, up2_o _ _ _ _ (by decide)]; exact eZ j
      · rw [up2_o _ _ _ _ (by decide), up2_o _ _ _ _ (by decide), up2_eq]; decide
  exact mM_end (T := mCm1 S i) (open4 hE) hi h0 yZ.1 yZ.2
theorem commit_ex (hB : CB K P I n N g lq lv mv) (hE : ER I S n N g lv mv q) (hi : i < n) (h0 : S 221 i = 0) (hW : ∀ r : Nat, r < N → S 246 r = 0 → S 248 r < S 100 0) (hN : N < 16384) (hc9 : S 100 16 < 100000) (hab : N + (unM S i N).length < 16384) (hEv : EvW K P) (hQs : QsR I S nq) (hQL : QnL K P I nq lqq) (hV : VnL K P I S nv l3 l4) (hv : ∀ j : Nat, j < nv → (0 ≤ S 269 j ∧ S 269 j < nq) ∧ mVw S (S 269 j))
    (hZ : ZOK Z) (z : Z (-1) (mCm1 S i)) (hZF : ∀ T, Z (-1) T → T 201 = S 201 ∧ (∀ o, 256 ≤ o → o ≤ 269 → T o = S o) ∧ T 100 0 = S 100 0) (hc : ∀ j, j < n → I (tX j) 14 + 5 * mM S n ≤ 8190) (hX : 2100 ≤ X + pC g n lv mv ∧ 5306448 ≤ Y + pS g n lv mv) :
    SpE m_F_commit true ({ frames := 13, cells := X, slots := Y, locals := 560 } : Room) (ComE Z K P J I S n g lq i nv lv mv q) K P J I [vR (some 1000), vI (i : Int)] := by
  have hC := hB.c
  have n60 := hB.e.2.1
  obtain ⟨hTZ, -, -⟩ := hB.t hi
  have hx := hTZ.k
  have q20 := hQL.2.1
  have h4 : I (tX i) 4 = 0 := (hE.tx i hi).1.2.2.2.1.trans h0
  have spA := sp_F_active1 (J := J) hC hB.e hi h4
  have spH := F_hasT1 (J := J) hC hB.e (a := (i : Int)) ⟨by omega, by omega⟩
  obtain ⟨N1, g1, cZ, wZ, K1, P1Z, I1, b1, e1Z, r1Z, n1Z, f1Z, okZ, spT⟩ := trycommit_ex (J := J) hB hE hi (by omega) hW hN hc9 hab
  have C1Z := b1.c
  have m0Z := (mM_rg (S := S) (n := n)).2.2
  have mA := (mM_rg (S := mCm1 S i) (n := n)).2.2
  have meZ := cm_meas hE hi (by omega) hE.cnt.2.1
  have p1Z := b1.pot (fun j hj => by rw [n1Z j hj]; have := hc j hj; omega)
  have q1Z : cZ + pC g n lv mv = pC g1 n lv mv := by unfold pC; omega
  have q2Z : wZ + pS g n lv mv = pS g1 n lv mv := by unfold pS; omega
  have spS := settle_null (J := J) (X := X - cZ) (Y := Y - wZ) b1 e1Z hZ z (fun j hj => by rw [n1Z j hj]; have := hc j hj; omega) ⟨by omega, by omega⟩
  generalize hv9 : (if bI (mFail S i) = 1 then (3 : Int) else 0) = v9 at spT
  refine SpE.ofV (by decide) (Or.inl rfl) rfl ?_
  refine VE.aload_n (pc' := 1) d_F_commit_0 rfl rfl ?_
  refine VE.gP (ci := 10) (T := T10) (N := 11) (k := 1) (k' := 1) (pc' := 4) d_F_commit_1 rfl lk_F_21 in10 rfl rfl rfl rfl (by first | exact hC.k 0 rfl | exact hC.k 9 rfl | exact hx | exact C1Z.k 0 rfl | exact C1Z.k 9 rfl) (by first | exact hC.p 1 rfl | exact C1Z.p 1 rfl | rfl) ?_
  refine VE.iload_n (pc' := 5) d_F_commit_4 rfl rfl ?_
  refine VE.cV (ci := 0) (T := T0) (N := 8) (pc' := 8) d_F_commit_5 rfl mv_Engine_hasTransaction lk_F_157 rfl (by first | exact hC.k 0 rfl | exact hC.k 9 rfl | exact hx | exact C1Z.k 0 rfl | exact C1Z.k 9 rfl) rfl rfl rfl (by show 0 + 0 ≤ X; omega) (by show 0 + 0 ≤ Y; omega) (spH) rfl rfl ?_
  refine VE.callSX (pc' := 11) d_F_commit_8 rfl (sp_F_demandPlace1 (by decide)) rfl ms_F_demandPlace.1 ms_F_demandPlace.2.1 rfl ms_F_demandPlace.2.2 lk_F_97 rfl rfl rfl (by show 0 + 0 + 0 ≤ X; omega) (by show 0 + 0 + 0 ≤ Y; omega) (fun _ _ _ _ _ hz => by cases hz.1) (fun r _ _ _ _ hz => ?_)
  obtain ⟨z1, z2, z3, z4, z5⟩ := hz
  cases z1
  replace z2 := z2.symm; replace z3 := z3.symm; replace z4 := z4.symm; replace z5 := z5.symm
  subst z2; subst z3; subst z4; subst z5
  refine VE.aload_n (pc' := 12) d_F_commit_11 rfl rfl ?_
  refine VE.gP (ci := 10) (T := T10) (N := 11) (k := 1) (k' := 1) (pc' := 15) d_F_commit_12 rfl lk_F_21 in10 rfl rfl rfl rfl (by first | exact hC.k 0 rfl | exact hC.k 9 rfl | exact hx | exact C1Z.k 0 rfl | exact C1Z.k 9 rfl) (by first | exact hC.p 1 rfl | exact C1Z.p 1 rfl | rfl) ?_
  refine VE.aload_n (pc' := 16) d_F_commit_15 rfl rfl ?_
  refine VE.iload_n (pc' := 17) d_F_commit_16 rfl rfl ?_
  refine VE.callVX (ci := 10) (T := T10) (N := 11) (pc' := 20) d_F_commit_17 rfl (spA) rfl mv_F_activeTransaction.1 mv_F_activeTransaction.2.1 rfl mv_F_activeTransaction.2.2.1 mv_F_activeTransaction.2.2.2 lk_F_160 rfl (by first | exact hC.k 0 rfl | exact hC.k 9 rfl | exact hx | exact C1Z.k 0 rfl | exact C1Z.k 9 rfl) rfl rfl rfl (by show 0 + 0 + 0 + 0 ≤ X; omega) (by show 0 + 0 + 0 + 0 ≤ Y; omega) (fun _ _ _ _ _ hz => by cases hz.1) (fun r _ _ _ _ hz => ?_)
  obtain ⟨z1, z2, z3, z4, z5⟩ := hz
  cases z1
  replace z2 := z2.symm; replace z3 := z3.symm; replace z4 := z4.symm; replace z5 := z5.symm
  subst z2; subst z3; subst z4; subst z5
  refine VE.cV (ci := 0) (T := T0) (N := 8) (pc' := 23) d_F_commit_20 rfl mv_Engine_tryCommit lk_F_187 rfl (by first | exact hC.k 0 rfl | exact hC.k 9 rfl | exact hx | exact C1Z.k 0 rfl | exact C1Z.k 9 rfl) rfl rfl rfl (by show 0 + 0 + 0 + 0 + cZ ≤ X; omega) (by show 0 + 0 + 0 + 0 + wZ ≤ Y; omega) (spT) rfl rfl ?_
  refine VE.istore_n (pc' := 24) d_F_commit_23 rfl rfl ?_
  refine VE.aload_n (pc' := 25) d_F_commit_24 rfl rfl ?_
  refine VE.gP (ci := 10) (T := T10) (N := 11) (k := 1) (k' := 1) (pc' := 28) d_F_commit_25 rfl lk_F_21 in10 rfl rfl rfl rfl (by first | exact hC.k 0 rfl | exact hC.k 9 rfl | exact hx | exact C1Z.k 0 rfl | exact C1Z.k 9 rfl) (by first | exact hC.p 1 rfl | exact C1Z.p 1 rfl | rfl) ?_
  refine VE.null (pc' := 29) d_F_commit_28 rfl ?_
  refine VE.callVE (ci := 0) (T := T0) (N := 8) (pc' := 32) d_F_commit_29 rfl spS rfl mv_Engine_settle.1 mv_Engine_settle.2.1 rfl mv_Engine_settle.2.2.1 mv_Engine_settle.2.2.2 lk_F_173 rfl (by first | exact hC.k 0 rfl | exact hC.k 9 rfl | exact hx | exact C1Z.k 0 rfl | exact C1Z.k 9 rfl) rfl rfl rfl (by show 0 + 0 + 0 + 0 + cZ + (X - cZ) ≤ X; omega) (by show 0 + 0 + 0 + 0 + wZ + (Y - wZ) ≤ Y; omega) (fun k9 n9 r K' P' J' I' hz => ?_)
  obtain ⟨z1, z2, -, m', N', g', lv', mv', d1Z, d2Z, d3Z, d4Z, d5Z, d6Z, d7Z⟩ := hz
  cases z1
  replace z2 := z2.symm
  subst z2
  have C2Z := d1Z.c
  have M9Z := (mM_rg (S := mSettle m' (mCm1 S i)) (n := n)).2.2
  have d6' : ∀ j, j < n → I' (tX j) 14 + 5 * mM (mSettle m' (mCm1 S i)) n ≤ I (tX j) 14 + 5 * mM S n := fun j hj => by
    have aZ : I' (tX j) 14 + 5 * mM (mSettle m' (mCm1 S i)) n ≤ I1 (tX j) 14 + 5 * mM (mCm1 S i) n := d6Z j hj
    rw [n1Z j hj] at aZ
    omega
  have p9Z := d1Z.pot (fun j hj => by have := d6' j hj; have := hc j hj; omega)
  have ffZ : ∀ o, ¬ nEn n o → K' o = K o ∧ P' o = P o ∧ I' o = I o := fun o ho => ⟨(d7Z o ho).1.trans (f1Z o ho).1, (d7Z o ho).2.1.trans (f1Z o ho).2.1, (d7Z o ho).2.2.trans (f1Z o ho).2.2⟩
  have ev9 : EvW K' P' := hEv.frm (fun o ho => ⟨(ffZ o (nEn_no n60 (Or.inl ho))).1, (ffZ o (nEn_no n60 (Or.inl ho))).2.1⟩)
  refine VE.iload_n (pc' := 33) d_F_commit_32 rfl rfl ?_
  refine VE.if_ne (tgt := 40) (pc' := 36) d_F_commit_33 rfl rfl (fun c33 => ?_) (fun c33 => ?_)
  · try have e33Z := bIn c33
    have finZ : ComE Z K P J I S n g lq i nv lv mv q (.inl (some (vI v9))) K' P' J I' (cZ + k9) (wZ + n9) := ⟨rfl, okZ, m', N', g', lv', mv', by rw [hv9], d1Z, d2Z, d3Z, d4Z, ⟨by omega, by omega⟩, d6', ev9, fun o aZ _ _ => ffZ o aZ, fun o ho => ⟨(ffZ o (nEn_no n60 (by unfold nVr at ho; unfold nQv; omega))).1, (ffZ o (nEn_no n60 (by unfold nVr at ho; unfold nQv; omega))).2.1⟩, fun _ o ho => (ffZ o (nEn_no n60 (by unfold nVr at ho; unfold nQv; omega))).2.2, fun hf => absurd hv9 (by rw [bI0 hf, if_neg (by decide)]; exact fun z => c33 z.symm)⟩
    refine VE.iload_n (pc' := 41) d_F_commit_40 rfl rfl ?_
    exact VE.iret d_F_commit_41 rfl rfl (by show 0 + 0 + 0 + 0 + cZ + k9 ≤ X; omega) (by show 0 + 0 + 0 + 0 + wZ + n9 ≤ Y; omega) (by have := finZ; rw [← Nat.zero_add cZ, ← Nat.zero_add wZ] at this; exact this)
  · try have e33Z := bIe c33
    refine VE.aload_n (pc' := 37) d_F_commit_36 rfl rfl ?_
    have zf := hZF _ d4Z
    have hs9 : StV I' (mSettle m' (mCm1 S i)) := ⟨d2Z.sch, d2Z.st.1, d2Z.st.2.1⟩
    have hQs9 : QsR I' (mSettle m' (mCm1 S i)) nq := hQs.of (fun j hj => by
      have qq : ∀ aZ, aZ < 32 → I' (qX j + aZ) = I (qX j + aZ) := fun aZ ha => (ffZ _ (nEn_no n60 (by unfold nQv qX; omega))).2.2
      have q0 : I' (qX j) = I (qX j) := qq 0 (by decide)
      exact ⟨by rw [q0], fun k hk => ⟨⟨by rw [qq 3 (by decide)], by rw [qq 5 (by decide)], by rw [qq 6 (by decide)], by rw [qq 7 (by decide)]⟩, fun j _ _ => by rw [qq 4 (by decide)]⟩⟩) (fun o k aZ b _ => by rw [zf.2.1 o aZ (by omega)]) (fun t _ _ => by rw [zf.1]) (by rw [zf.2.2]; exact Int.le_refl _)
    have hQL9 : QnL K' P' I' nq lqq := hQL.frm (fun o ho => ⟨(ffZ o (nEn_no n60 (by first | exact Or.inr (Or.inl ho)))).1, (ffZ o (nEn_no n60 (Or.inr (Or.inl ho)))).2.1⟩) ⟨(ffZ 1480 (nEn_no n60 (by unfold nQv; omega))).2.2, (ffZ 999 (nEn_no n60 (by unfold nQv; omega))).2.2, fun o aZ b => (ffZ o (nEn_no n60 (by unfold nQv; omega))).2.2⟩
    have hV9 : VnL K' P' I' (mSettle m' (mCm1 S i)) nv l3 l4 := hV.frm hQL (zf.2.1 269 (by decide) (by decide)) (fun j hj => (hv j hj).1) (fun o ho => ⟨(ffZ o (nEn_no n60 (Or.inr (Or.inl ho)))).1, (ffZ o (nEn_no n60 (Or.inr (Or.inl ho)))).2.1⟩) ⟨(ffZ 1512 (nEn_no n60 (by unfold nQv; omega))).2.2, (ffZ 1544 (nEn_no n60 (by unfold nQv; omega))).2.2, (ffZ 999 (nEn_no n60 (by unfold nQv; omega))).2.2, fun o aZ b => (ffZ o (nEn_no n60 (by unfold nQv; omega))).2.2⟩
    have e269 := zf.2.1 269 (by decide) (by decide)
    have spV := refresh_run (J := J) C2Z ev9 hs9 hQs9 hQL9 hV9 (fun j hj => by
      rw [e269]
      refine ⟨(hv j hj).1, ?_⟩
      have := (hv j hj).2
      unfold mVw mVwG mInner at *
      rw [zf.2.1 256 (by decide) (by decide), zf.2.1 257 (by decide) (by decide), zf.2.1 258 (by decide) (by decide), zf.2.1 262 (by decide) (by decide)]
      exact this)
    refine VE.cVq (ci := 10) (T := T10) (N := 11) (pc' := 40) d_F_commit_37 rfl mv_F_refreshViews lk_F_191 rfl (C2Z.k 0 rfl) rfl rfl rfl (by show 0 + 0 + 0 + 0 + cZ + k9 + 0 ≤ X; omega) (by show 0 + 0 + 0 + 0 + wZ + n9 + 0 ≤ Y; omega) (spV) rfl rfl (fun r9 K9 P9 J9 I9 hz9 => ?_)
    obtain ⟨t1Z, t2Z, t3Z, t4Z, t5Z, t6, t7⟩ := hz9
    cases t1Z
    replace t2Z := t2Z.symm; replace t3Z := t3Z.symm
    subst t2Z; subst t3Z
    have f9Z : ∀ o, ¬ nEn n o → ¬ nEv o → ¬ nVr o → K' o = K o ∧ P9 o = P o ∧ I9 o = I o := fun o aZ b d => ⟨(ffZ o aZ).1, (t5Z o (fun z => b (by rw [z]; unfold nEv; omega))).trans (ffZ o aZ).2.1, (t6 o b d).trans (ffZ o aZ).2.2⟩
    have er : ∀ o, erC o → I9 o = I' o := fun o ho => t6 o (by unfold erC erI nEv at *; omega) (by unfold erC erI nVr at *; omega)
    have B9 : CB K' P9 I9 n N' g' lq lv' mv' := d1Z.out (C2Z.evp t5Z) (fun o ho => ⟨rfl, t5Z o (by omega), t6 o (by unfold nEv; omega) (by unfold nVr; omega)⟩)
    have E9 : ER I9 (mSettle m' (mCm1 S i)) n N' g' lv' mv' q := d2Z.same d1Z.lev d1Z.g10 er (fun _ _ _ => rfl) ⟨Int.le_refl _, d2Z.rd.2.2⟩
    have finZ : ComE Z K P J I S n g lq i nv lv mv q (.inl (some (vI v9))) K' P9 J I9 (cZ + k9) (wZ + n9) := ⟨rfl, okZ, m', N', g', lv', mv', by rw [hv9], B9, E9, d3Z, d4Z, ⟨by omega, by omega⟩, fun j hj => by rw [t6 (tX j) (by unfold nEv tX; omega) (by unfold nVr tX; omega)]; exact d6' j hj, t4Z, f9Z, fun o ho => ⟨(ffZ o (nEn_no n60 (by unfold nVr at ho; unfold nQv; omega))).1, (t5Z o (by unfold nVr at ho; omega)).trans (ffZ o (nEn_no n60 (by unfold nVr at ho; unfold nQv; omega))).2.1⟩, fun hf => absurd hv9 (by rw [bI1 hf, if_pos rfl]; exact fun z => by omega), fun _ j hj => by have := t7 j hj; rw [e269] at this; exact this⟩
    skip
    refine VE.iload_n (pc' := 41) d_F_commit_40 rfl rfl ?_
    exact VE.iret d_F_commit_41 rfl rfl (by show 0 + 0 + 0 + 0 + cZ + k9 + 0 ≤ X; omega) (by show 0 + 0 + 0 + 0 + wZ + n9 + 0 ≤ Y; omega) (by have := finZ; rw [← Nat.zero_add cZ, ← Nat.zero_add wZ] at this; exact this)
end
