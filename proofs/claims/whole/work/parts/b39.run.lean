/-! RowForge.run, atByLoops, at -/
section
variable {K K' : KT} {P P' : PT} {J I I' S S' : IT} {n N g lq i nq lqq y w n' : Nat} {lv mv : Nat → Nat} {q : Int} {X Y : Nat} {L : List (List Int)}
theorem CB.out (h : CB K P I n N g lq lv mv) (hC : ClW K' P') (hF : ∀ o, o = 999 ∨ (1192 ≤ o ∧ o < 1224) ∨ o = 1448 ∨ (2000 ≤ o ∧ o < 10000) ∨ (12000 ≤ o ∧ o < 12200) → K' o = K o ∧ P' o = P o ∧ I' o = I o) : CB K' P' I' n N g lq lv mv := by
  have n60 := h.e.2.1
  have tx : ∀ j, j < n → TxV K' P' j (lv j) (mv j) ∧ TxN I' j (lv j) (mv j) ∧ I' (tX j) 17 ≤ 16384 := fun j hj => by
    obtain ⟨aZ, bZ, cZ⟩ := h.t hj
    have fZ : ∀ o, nTx j o → K' o = K o ∧ P' o = P o ∧ I' o = I o := fun o ho => hF o (by unfold nTx tX at ho; omega)
    refine ⟨aZ.fl (fun o ho => ⟨(fZ o ho).1, (fZ o ho).2.1⟩), bZ.fl (h.lev j hj) (fun o ho => (fZ o ho).2.2), ?_⟩
    rw [(fZ (tX j) (by unfold nTx; omega)).2.2]; exact cZ
  have g10 := h.g10
  have f1Z := hF 1192 (by omega)
  have f2Z := hF (12000 + g) (by omega)
  refine ⟨hC, ⟨?_, ?_⟩, h.e.fr (fun o ho => hF o (by omega)) ⟨(hF 999 (by omega)).1, (hF 999 (by omega)).2.1⟩ (fun j hj => (tx j hj).1), fun j hj => (tx j hj).2⟩
  · have := h.v
    unfold LgV LgW at *
    rw [f1Z.1, f1Z.2.1, f2Z.1, (hF 1196 (by omega)).1, (hF 1197 (by omega)).1]
    exact ⟨this.1, fun j j0 j1 => by rw [(hF (12000 + j) (by omega)).1]; exact this.2.1 j j0 j1, this.2.2⟩
  · have := h.l
    unfold LgN at *
    rw [f1Z.2.2]; exact this
def RunE (K : KT) (P : PT) (J I S : IT) (n N g lq i x n' w : Nat) (lv mv : Nat → Nat) (q : Int) (L : List (List Int)) : PE := fun r' K' P' J' I' c z => J' = J ∧ ∃ (M : List (List Int)) (lv' : Nat → Nat), r' = .inl (some (vI (M.length : Int))) ∧ (CB K' P' I' n N g lq lv' mv ∧ ER I' (mRa S i (12 * ((x : Int) + 1)) n' n') n N g lv' mv (q + 4)) ∧ EvW K' P' ∧ (RelR I' 1416 1417 w M ∧ M.Perm L ∧ Ris M) ∧ (c + pC g n lv mv = pC g n lv' mv ∧ z + pS g n lv mv = pS g n lv' mv) ∧ (∀ j, j < n → I' (tX j) 14 ≤ I (tX j) 14 + 12) ∧ ∀ o, ¬ nTx i o → ¬ nEv o → o ≠ 1416 → o ≠ 1417 → K' o = K o ∧ P' o = P o ∧ I' o = I o
/-- what a query by a transaction rests on -/
theorem tx_eval (hB : CB K P I n N g lq lv mv) (hE : ER I S n N g lv mv q) (hi : i < n) (h0 : S 221 i < 2) (hEv : EvW K P) (hQs : QsR I S nq) (hQL : QnL K P I nq lqq) (hy : y < nq) : ∃ n' w c L, (FnOK S (S 223 i) (S 220 i) (y : Int) n' w L ∧ (∀ r ∈ L, r.length = w)) ∧ (QV S (12 * ((y : Int) + 1)) n' ∧ QRe I S (qX y) (12 * ((y : Int) + 1)) n' ∧ S 262 y = n' ∧ wsT S (12 * ((y : Int) + 1)) n' = [(w, c)]) ∧ Sp m_Evaluator_evaluate false (rmv 7 280) (EvP K P J I (evF S (S 223 i) (S 220 i) (12 * ((y : Int) + 1)) n') w L) K P J I [vR (some 1224), vR (some (qX y)), vR (some (tX i + 32)), vI (S 220 i)] := by
  obtain ⟨n', w, c, ⟨a1Z, a2⟩, a3, a4, a5, a6⟩ := hQs y hy
  obtain ⟨⟨o1, o2⟩, o3Z, -⟩ := hE.own i ⟨hi, h0⟩
  have hR : RwW K P (tX i + 32) (tX i + 33) := (hB.t hi).1.rows
  obtain ⟨L, b1, b2, b3⟩ := eval_cls (J := J) (y := S 220 i) hB.c hEv hE.sch.1 hE.sch.2 hR (by unfold nEv tX; omega) (hQL.2.2 y hy).2 o1 o2 o3Z a3 a5 a1Z a4
  exact ⟨n', w, c, L, ⟨b1, b2⟩, ⟨a3, a5, a1Z, a4⟩, b3⟩
theorem F_hasQ1 {a : Int} (hC : ClW K P) (hz : I 1480 2 = (nq : Int)) (h : 0 ≤ a ∧ a < nq) : Sp m_F_hasQuery false (rmv 1 20) (ex K P J I (.inl (some (vI 1)))) K P J I [vR (some 1000), vI a] := by
  have := sp_F_hasQuery (J := J) (a := a) hC hz
  rw [bI1 h] at this
  exact this
theorem F_hasQ0 {a : Int} (hC : ClW K P) (hz : I 1480 2 = (nq : Int)) (h : ¬ (0 ≤ a ∧ a < nq)) : Sp m_F_hasQuery false (rmv 1 20) (ex K P J I (.inl (some (vI 0)))) K P J I [vR (some 1000), vI a] := by
  have := sp_F_hasQuery (J := J) (a := a) hC hz
  rw [bI0 h] at this
  exact this
theorem F_hasT1 {a : Int} (hC : ClW K P) (hL : EnL K P I n lq lv mv) (h : 0 ≤ a ∧ a < n) : Sp m_Engine_hasTransaction false (rmv 1 20) (ex K P J I (.inl (some (vI 1)))) K P J I [vR (some 1064), vI a] := by
  have := sp_Engine_hasTransaction (J := J) hC hL (a := a)
  rw [bI1 h] at this
  exact this
theorem run_ex (hB : CB K P I n N g lq lv mv) (hE : ER I S n N g lv mv q) (hi : i < n) (h0 : S 221 i = 0) (hEv : EvW K P) (hQL : QnL K P I nq lqq) (hy : y < nq) (hq : q + 4 ≤ 2048) (hc14 : ∀ j, j < n → I (tX j) 14 + 12 ≤ 8190) (hX : 2100 ≤ X + pC g n lv mv ∧ 5306448 ≤ Y + pS g n lv mv) {c : Nat}
    (hf : FnOK S (S 223 i) (S 220 i) (y : Int) n' w L) (hqv : QV S (12 * ((y : Int) + 1)) n' ∧ QRe I S (qX y) (12 * ((y : Int) + 1)) n' ∧ S 262 y = n' ∧ wsT S (12 * ((y : Int) + 1)) n' = [(w, c)]) (hF : ¬ evF S (S 223 i) (S 220 i) (12 * ((y : Int) + 1)) n')
    (sp : Sp m_Evaluator_evaluate false (rmv 7 280) (EvP K P J I (evF S (S 223 i) (S 220 i) (12 * ((y : Int) + 1)) n') w L) K P J I [vR (some 1224), vR (some (qX y)), vR (some (tX i + 32)), vI (S 220 i)]) :
    SpE m_F_run true ({ frames := 13, cells := X, slots := Y, locals := 560 } : Room) (RunE K P J I S n N g lq i y n' w lv mv q L) K P J I [vR (some 1000), vI (i : Int), vI (y : Int)] := by
  have hC := hB.c
  have n60 := hB.e.2.1
  have x0Z : 2000 ≤ tX i ∧ tX i + 128 ≤ 10000 := by unfold tX; omega
  obtain ⟨hTZ, hNT, hN17⟩ := hB.t hi
  have hx := hTZ.k
  have hQ := (hQL.2.2 y hy).2
  have hz : I 1480 2 = (nq : Int) := hQL.1.2.2.2.1.1
  have hcp := hQL.1.2.2.2.1.2.1
  have el := (hQL.2.2 y hy).1
  have h4 : I (tX i) 4 = 0 := (hE.tx i hi).1.2.2.2.1.trans h0
  have h1 : I (tX i) 1 = S 220 i := (hE.tx i hi).1.2.1
  have hpr : P (tX i) 3 = some (tX i + 32) := hTZ.pr
  have spA := sp_F_active1 (J := J) hC hB.e hi h4
  have spH := F_hasT1 (J := J) hC hB.e (a := (i : Int)) ⟨by omega, by omega⟩
  have spY := F_hasQ1 (J := J) hC hz (a := (y : Int)) ⟨by omega, by omega⟩
  have spG := sp_java_util_ArrayList_get (J := J) (I := I) (i := (y : Int)) hQL.1.1 (by rw [hz]; omega) (by rw [hz]; omega)
  rw [el] at spG
  have spR := result_run (J := J) hC hx hpr h1 hF sp
  have fb := hf.b
  have hQ0 := hqv.2.1.1
  have n12 := hqv.1.1
  have q20 := hQL.2.1
  refine SpE.ofV (by decide) (Or.inl rfl) rfl ?_
  refine VE.aload_n (pc' := 1) d_F_run_0 rfl rfl ?_
  refine VE.gP (ci := 10) (T := T10) (N := 11) (k := 1) (k' := 1) (pc' := 4) d_F_run_1 rfl lk_F_21 in10 rfl rfl rfl rfl (by first | exact hC.k 0 rfl | exact hC.k 9 rfl | exact hC.k 54 rfl | exact hx | exact hQ.k) (by first | exact hC.p 1 rfl | exact hC.p 4 rfl | exact hC.p 7 rfl | rfl) ?_
  refine VE.iload_n (pc' := 5) d_F_run_4 rfl rfl ?_
  refine VE.cV (ci := 0) (T := T0) (N := 8) (pc' := 8) d_F_run_5 rfl mv_Engine_hasTransaction lk_F_157 rfl (by first | exact hC.k 0 rfl | exact hC.k 9 rfl | exact hC.k 54 rfl | exact hx | exact hQ.k) rfl rfl rfl (by show 0 + 0 ≤ X; omega) (by show 0 + 0 ≤ Y; omega) (spH) rfl rfl ?_
  refine VE.if_eq (tgt := 23) (pc' := 11) d_F_run_8 rfl rfl (fun c8 => ?_) (fun c8 => ?_)
  case refine_1 => exact absurd c8 (by decide)
  refine VE.aload_n (pc' := 12) d_F_run_11 rfl rfl ?_
  refine VE.iload_n (pc' := 13) d_F_run_12 rfl rfl ?_
  refine VE.cV (ci := 10) (T := T10) (N := 11) (pc' := 16) d_F_run_13 rfl mv_F_hasQuery lk_F_267 rfl (by first | exact hC.k 0 rfl | exact hC.k 9 rfl | exact hC.k 54 rfl | exact hx | exact hQ.k) rfl rfl rfl (by show 0 + 0 + 0 ≤ X; omega) (by show 0 + 0 + 0 ≤ Y; omega) (spY) rfl rfl ?_
  refine VE.if_eq (tgt := 23) (pc' := 19) d_F_run_16 rfl rfl (fun c16 => ?_) (fun c16 => ?_)
  case refine_1 => exact absurd c16 (by decide)
  refine VE.iconst (pc' := 20) d_F_run_19 rfl (by decide) ?_
  refine VE.goto (pc' := 24) d_F_run_20 rfl ?_
  refine VE.callSX (pc' := 27) d_F_run_24 rfl (sp_F_demandPlace1 (by decide)) rfl ms_F_demandPlace.1 ms_F_demandPlace.2.1 rfl ms_F_demandPlace.2.2 lk_F_97 rfl rfl rfl (by show 0 + 0 + 0 + 0 ≤ X; omega) (by show 0 + 0 + 0 + 0 ≤ Y; omega) (fun _ _ _ _ _ hz => by cases hz.1) (fun r _ _ _ _ hz => ?_)
  obtain ⟨z1, z2, z3, z4, z5⟩ := hz
  cases z1
  replace z2 := z2.symm; replace z3 := z3.symm; replace z4 := z4.symm; replace z5 := z5.symm
  subst z2; subst z3; subst z4; subst z5
  refine VE.aload_n (pc' := 28) d_F_run_27 rfl rfl ?_
  refine VE.iload_n (pc' := 29) d_F_run_28 rfl rfl ?_
  refine VE.callVX (ci := 10) (T := T10) (N := 11) (pc' := 32) d_F_run_29 rfl (spA) rfl mv_F_activeTransaction.1 mv_F_activeTransaction.2.1 rfl mv_F_activeTransaction.2.2.1 mv_F_activeTransaction.2.2.2 lk_F_160 rfl (by first | exact hC.k 0 rfl | exact hC.k 9 rfl | exact hC.k 54 rfl | exact hx | exact hQ.k) rfl rfl rfl (by show 0 + 0 + 0 + 0 + 0 ≤ X; omega) (by show 0 + 0 + 0 + 0 + 0 ≤ Y; omega) (fun _ _ _ _ _ hz => by cases hz.1) (fun r _ _ _ _ hz => ?_)
  obtain ⟨z1, z2, z3, z4, z5⟩ := hz
  cases z1
  replace z2 := z2.symm; replace z3 := z3.symm; replace z4 := z4.symm; replace z5 := z5.symm
  subst z2; subst z3; subst z4; subst z5
  refine VE.astore_n (pc' := 33) d_F_run_32 rfl rfl ?_
  refine VE.aload_n (pc' := 34) d_F_run_33 rfl rfl ?_
  refine VE.gP (ci := 10) (T := T10) (N := 11) (k := 4) (k' := 4) (pc' := 37) d_F_run_34 rfl lk_F_42 in10 rfl rfl rfl rfl (by first | exact hC.k 0 rfl | exact hC.k 9 rfl | exact hC.k 54 rfl | exact hx | exact hQ.k) (by first | exact hC.p 1 rfl | exact hC.p 4 rfl | exact hC.p 7 rfl | rfl) ?_
  refine VE.iload_n (pc' := 38) d_F_run_37 rfl rfl ?_
  refine VE.cV (ci := 12) (T := T12) (N := 3) (pc' := 41) d_F_run_38 rfl mv_java_util_ArrayList_get lk_F_270 rfl (by first | exact hC.k 0 rfl | exact hC.k 9 rfl | exact hC.k 54 rfl | exact hx | exact hQ.k) rfl rfl rfl (by show 0 + 0 + 0 + 0 + 0 + 0 ≤ X; omega) (by show 0 + 0 + 0 + 0 + 0 + 0 ≤ Y; omega) (spG) rfl rfl ?_
  refine VE.cast (ci := 4) (T := T4) (NN := 13) (pc' := 44) d_F_run_41 rfl lk_F_63 rfl (hQ.k) ?_
  refine VE.astore (pc' := 46) d_F_run_44 rfl rfl ?_
  refine VE.aload_n (pc' := 47) d_F_run_46 rfl rfl ?_
  refine VE.gP (ci := 10) (T := T10) (N := 11) (k := 7) (k' := 7) (pc' := 50) d_F_run_47 rfl lk_F_55 in10 rfl rfl rfl rfl (by first | exact hC.k 0 rfl | exact hC.k 9 rfl | exact hC.k 54 rfl | exact hx | exact hQ.k) (by first | exact hC.p 1 rfl | exact hC.p 4 rfl | exact hC.p 7 rfl | rfl) ?_
  refine VE.aload_n (pc' := 51) d_F_run_50 rfl rfl ?_
  refine VE.aload_n (pc' := 52) d_F_run_51 rfl rfl ?_
  refine VE.aload (pc' := 54) d_F_run_52 rfl rfl ?_
  refine VE.callVX (ci := 10) (T := T10) (N := 11) (pc' := 57) d_F_run_54 rfl (spR) rfl mv_F_resultFor.1 mv_F_resultFor.2.1 rfl mv_F_resultFor.2.2.1 mv_F_resultFor.2.2.2 lk_F_274 rfl (by first | exact hC.k 0 rfl | exact hC.k 9 rfl | exact hC.k 54 rfl | exact hx | exact hQ.k) rfl rfl rfl (by show 0 + 0 + 0 + 0 + 0 + 0 + 0 ≤ X; omega) (by show 0 + 0 + 0 + 0 + 0 + 0 + 0 ≤ Y; omega) (fun _ _ _ _ _ hz9 => by rcases hz9.2.2.2.2.2 with ⟨_, vZ⟩ | ⟨_, _, _, vZ, _⟩ <;> cases vZ) (fun r9 K9 P9 J9 I9 hz9 => ?_)
  obtain ⟨y1, y2, y3, y4, y5, y6⟩ := hz9
  replace y1 := y1.symm; replace y2 := y2.symm
  subst y1; subst y2
  rcases y6 with ⟨fZ, -⟩ | ⟨-, eZ, MZ, g0, ⟨g1, g2, g3Z⟩, g4, g5Z, g6⟩
  · exact absurd fZ hF
  cases g0
  have C2Z := hC.evp y5
  have mlZ : MZ.length = L.length := g5Z.length_eq
  have ee := g1.ev
  have ee2 := g2.ev
  unfold nEv at ee ee2
  have hG7 : ReW K P9 1416 1417 5120 := ⟨C2Z.k 51 rfl, C2Z.p 53 rfl, C2Z.k 52 rfl⟩
  have mb : 0 ≤ I9 eZ 1 * I9 eZ 2 ∧ I9 eZ 1 * I9 eZ 2 ≤ 5120 := by
    rw [g4.1, g4.2.1]
    exact ⟨mulNN (by omega) (by omega), mulUp (W := 512) (n := 10) (by omega) (by omega) (by omega) (by omega)⟩
  have spK := sp_Relation_copyFrom (J := J) (I := I9) hG7 g3Z (by omega) ⟨mb.1, by omega, by omega, by decide⟩
  have cR := copy_R (c := 1416) (k := 1417) g4 (by omega) (by decide) (by omega)
  have c0Z : ∀ o, ¬ nEv o → o ≠ 1416 → o ≠ 1417 → cpyI (up2 (up2 I9 1416 1 (I9 eZ 1)) 1416 2 (I9 eZ 2)) (eZ + 1) 0 1417 0 (I9 eZ 1 * I9 eZ 2) o = I o := fun o a b d => by rw [copy_o b d]; exact y4 o a
  generalize cpyI (up2 (up2 I9 1416 1 (I9 eZ 1)) 1416 2 (I9 eZ 2)) (eZ + 1) 0 1417 0 (I9 eZ 1 * I9 eZ 2) = T at *
  have tx0 : ∀ o, nTx i o → P9 o = P o ∧ T o = I o := fun o ho => ⟨y5 o (by unfold nTx at ho; omega), c0Z o (by unfold nEv nTx at *; omega) (by unfold nTx at ho; omega) (by unfold nTx at ho; omega)⟩
  have l15 := hB.lev i hi
  have hT9 : TxV K P9 i (lv i) (mv i) := hTZ.fl (fun o ho => ⟨rfl, (tx0 o ho).1⟩)
  have hN9 : TxN T i (lv i) (mv i) := hNT.fl l15 (fun o ho => (tx0 o ho).2)
  have qo : ∀ a, a < 32 → T (qX y + a) = I (qX y + a) := fun a ha => c0Z _ (by unfold nEv qX; omega) (by unfold qX; omega) (by unfold qX; omega)
  have qo0 : T (qX y) = I (qX y) := qo 0 (by decide)
  have hQ9 : QuW K P9 (qX y) := hQ.of (y5 _ (by unfold qX; omega))
  have e14Z : T (tX i) 14 = I (tX i) 14 := by rw [(tx0 (tX i) (by unfold nTx; omega)).2]
  obtain ⟨l', cc, zz, K3, P3, I3, ⟨v1Z, v2⟩, f3Z, r3, d3Z, spN⟩ := note_ex (J := J) (q := qX y) (n := n') ⟨by rw [qo0]; exact hQ0, n12⟩ (fun j hj z => by unfold nTx qX tX at z; omega) (fun k hk h => by
    rw [qo 3 (by decide), (hqv.2.1.2 k hk).1.1] at h
    rw [qo 4 (by decide), (hqv.2.1.2 k hk).1.2.1]
    have := ((hqv.1.2 k hk).2.1 h).1
    have := hE.sch.2.1
    omega) hQ9 hT9 hN9 (by rw [e14Z]; have := hc14 i hi; omega)
  have C3Z : ClW K3 P3 := C2Z.tx f3Z
  have E9 : ER T S n N g lv mv q := hE.same hB.lev hB.g10 (fun o ho => c0Z o (by unfold erC erI nEv at *; omega) (by unfold erC erI at ho; omega) (by unfold erC erI at ho; omega)) (fun _ _ _ => rfl) ⟨Int.le_refl _, by omega⟩
  have hr9 := hE.rd.1 i hi
  have md := mRa_MrD (i := (i : Int)) hE.sch.2 hqv.1 ⟨hr9.1, by omega⟩ n' (Nat.le_refl _)
  have w3Z := (wsT_ok hE.sch.2 hqv.1 n' (Nat.le_refl _)).2
  have sr : ∀ k, k < n' → (∀ t, rdW T (qX y) k t ↔ qW S (12 * ((y : Int) + 1)) n' k t) ∧ ∀ t z, rdY T (qX y) k t z ↔ qY S (12 * ((y : Int) + 1)) n' k t z := fun k hk => by
    obtain ⟨a1Z, a2⟩ := rd_same (by omega) hqv.1 hqv.2.1 hk
    obtain ⟨b1, b2⟩ := rd_of (S := T) (I := I) (q := qX y) qo0 (qo 3 (by decide)) (qo 4 (by decide))
    exact ⟨fun t => (b1 k t).trans (a1Z t), fun t z => (b2 k t z).trans (a2 t z)⟩
  have E3 := E9.reads hB.lev hB.g10 hi h0 (fun o ho => (f3Z o ho).2.2) d3Z md (by omega) (fun o k a => mRa_fr n' o k a) (fun k => mRa_236 n' k) (fun t _ _ => ⟨fun ⟨k, hk, z⟩ => ⟨k, hk, ((sr k hk).1 t).mp z⟩, fun ⟨k, hk, z⟩ => ⟨k, hk, ((sr k hk).1 t).mpr z⟩⟩) (fun t z _ _ => ⟨fun ⟨k, hk, vZ⟩ => ⟨k, hk, ((sr k hk).2 t z).mp vZ⟩, fun ⟨k, hk, vZ⟩ => ⟨k, hk, ((sr k hk).2 t z).mpr vZ⟩⟩) (fun t z ⟨k, hk, vZ⟩ => by
    have := ((hqv.1.2 k hk).2.1 vZ.1).1
    have := hE.sch.2.1
    rw [vZ.2.1]; omega) hq
  have B9 : CB K P9 T n N g lq lv mv := hB.out C2Z (fun o ho => ⟨rfl, y5 o (by omega), c0Z o (by unfold nEv; omega) (by omega) (by omega)⟩)
  have t17 : I3 (tX i) 17 = I (tX i) 17 := by rw [d3Z.1 17 (by decide) (by decide), (tx0 (tX i) (by unfold nTx; omega)).2]
  have B3 : CB K3 P3 I3 n N g lq (fun j => if j = i then l' else lv j) mv := B9.tr hi C3Z ⟨B9.v.of (fun o ho => ⟨(f3Z o (by unfold nTx tX; omega)).1, (f3Z o (by unfold nTx tX; omega)).2.1⟩), by
    have := B9.l
    unfold LgN at *
    rw [(f3Z 1192 (by unfold nTx tX; omega)).2.2]; exact this⟩ ⟨by rw [if_pos rfl]; exact v1Z, by rw [if_pos rfl]; exact v2, by rw [t17]; exact hN17⟩ (fun j hj => ⟨if_neg hj, rfl⟩) (fun o a _ _ => f3Z o a)
  have pc := pC_upd (g := g) (g' := g) (lv := lv) (mv := mv) (lv' := fun j => if j = i then l' else lv j) (mv' := mv) hi (fun j hj => ⟨if_neg hj, rfl⟩)
  have ps' := pS_upd (g := g) (g' := g) (lv := lv) (mv := mv) (lv' := fun j => if j = i then l' else lv j) (mv' := mv) hi (fun j hj => ⟨if_neg hj, rfl⟩)
  rw [show (if i = i then l' else lv i) = l' from if_pos rfl] at pc ps'
  have p9Z := B3.pot (fun j hj => by
    by_cases eZ : j = i
    · have := d3Z.2.1.2
      have := hc14 i hi
      rw [eZ]; omega
    · rw [(f3Z (tX j) (by unfold nTx tX; omega)).2.2, c0Z (tX j) (by unfold nEv tX; omega) (by unfold tX; omega) (by unfold tX; omega)]
      have := hc14 j hj; omega)
  have ev3 : EvW K3 P3 := by
    obtain ⟨eNZ, s1Z, s2Z⟩ := y3
    refine ⟨eNZ, ?_, s2Z⟩
    have kk : ∀ o, 1224 ≤ o → o < 1384 → K3 o = K o ∧ P3 o = P9 o := fun o a b => ⟨(f3Z o (by unfold nTx tX; omega)).1, (f3Z o (by unfold nTx tX; omega)).2.1⟩
    unfold StW ReW at *
    rw [(kk 1224 (by decide) (by decide)).1, (kk 1224 (by decide) (by decide)).2, (kk 1226 (by decide) (by decide)).1, (kk 1226 (by decide) (by decide)).2]
    refine ⟨s1Z.1, s1Z.2.1, s1Z.2.2.1, fun j hj => ?_, s1Z.2.2.2.2⟩
    have u1Z := (s2Z j hj).1.ev
    have u2Z := (s2Z j hj).2.ev
    unfold nEv at u1Z u2Z
    rw [(kk (eNZ j) u1Z.1 u1Z.2).1, (kk (eNZ j) u1Z.1 u1Z.2).2, (kk (eNZ j + 1) u2Z.1 u2Z.2).1]
    exact s1Z.2.2.2.1 j hj
  have cR3 : RelR I3 1416 1417 w MZ := cR.fr (f3Z 1416 (by unfold nTx tX; omega)).2.2 (f3Z 1417 (by unfold nTx tX; omega)).2.2
  have finZ : RunE K P J I S n N g lq i y n' w lv mv q L (.inl (some (vI (MZ.length : Int)))) K3 P3 J I3 cc zz := ⟨rfl, MZ, _, rfl, ⟨B3, E3⟩, ev3, ⟨cR3, g5Z, g6⟩, ⟨by omega, by omega⟩, fun j hj => by
    by_cases eZ : j = i
    · rw [eZ]
      have := d3Z.2.1.2
      omega
    · rw [(f3Z (tX j) (by unfold nTx tX; omega)).2.2, c0Z (tX j) (by unfold nEv tX; omega) (by unfold tX; omega) (by unfold tX; omega)]; omega, fun o a b d eZ => ⟨(f3Z o a).1, (f3Z o a).2.1.trans (y5 o (fun z => b (by rw [z]; unfold nEv; omega))), (f3Z o a).2.2.trans (c0Z o b d eZ)⟩⟩
  have hT3 := C3Z
  have e7Z := cR3
  refine VE.cV (ci := 5) (T := T5) (N := 3) (pc' := 60) d_F_run_57 rfl mv_Relation_copyFrom lk_F_278 rfl (hG7.1) rfl rfl rfl (by show 0 + 0 + 0 + 0 + 0 + 0 + 0 + 0 ≤ X; omega) (by show 0 + 0 + 0 + 0 + 0 + 0 + 0 + 0 ≤ Y; omega) (spK) rfl rfl ?_
  refine VE.aload (pc' := 62) d_F_run_60 rfl rfl ?_
  refine VE.aload_n (pc' := 63) d_F_run_62 rfl rfl ?_
  refine VE.cV (ci := 4) (T := T4) (N := 13) (pc' := 66) d_F_run_63 rfl mv_Query_noteReads lk_F_282 rfl (hQ9.k) rfl rfl rfl (by show 0 + 0 + 0 + 0 + 0 + 0 + 0 + 0 + cc ≤ X; omega) (by show 0 + 0 + 0 + 0 + 0 + 0 + 0 + 0 + zz ≤ Y; omega) (spN) rfl rfl ?_
  refine VE.aload_n (pc' := 67) d_F_run_66 rfl rfl ?_
  refine VE.gP (ci := 10) (T := T10) (N := 11) (k := 7) (k' := 7) (pc' := 70) d_F_run_67 rfl lk_F_55 in10 rfl rfl rfl rfl (C3Z.k 0 rfl) (C3Z.p 7 rfl) ?_
  refine VE.gI (ci := 5) (T := T5) (N := 3) (k := 1) (k' := 1) (pc' := 73) d_F_run_70 rfl lk_F_285 in5 rfl rfl rfl rfl (C3Z.k 51 rfl) (e7Z.2.1) ?_
  exact VE.iret d_F_run_73 rfl rfl (by show 0 + 0 + 0 + 0 + 0 + 0 + 0 + 0 + cc ≤ X; omega) (by show 0 + 0 + 0 + 0 + 0 + 0 + 0 + 0 + zz ≤ Y; omega) (by have := finZ; rw [← Nat.zero_add cc, ← Nat.zero_add zz] at this; exact this)
theorem run_fail (hB : CB K P I n N g lq lv mv) (hE : ER I S n N g lv mv q) (hi : i < n) (h0 : S 221 i = 0) (hQL : QnL K P I nq lqq) (hy : y < nq) {F : Prop} (hF : F)
    (sp : Sp m_Evaluator_evaluate false (rmv 7 280) (EvP K P J I F w L) K P J I [vR (some 1224), vR (some (qX y)), vR (some (tX i + 32)), vI (S 220 i)]) :
    Sp m_F_run true ({ frames := 12, cells := 1, slots := 6, locals := 400 } : Room) (fun r' K' P' J' I' => r' = .inr eARE ∧ K' = K ∧ J' = J ∧ EvW K P' ∧ (∀ o, ¬ nEv o → I' o = I o) ∧ (∀ o, o ≠ 1226 → P' o = P o) : PQ) K P J I [vR (some 1000), vI (i : Int), vI (y : Int)] := by
  have hC := hB.c
  have n60 := hB.e.2.1
  have x0Z : 2000 ≤ tX i ∧ tX i + 128 ≤ 10000 := by unfold tX; omega
  obtain ⟨hTZ, hNT, hN17⟩ := hB.t hi
  have hx := hTZ.k
  have hQ := (hQL.2.2 y hy).2
  have hz : I 1480 2 = (nq : Int) := hQL.1.2.2.2.1.1
  have hcp := hQL.1.2.2.2.1.2.1
  have el := (hQL.2.2 y hy).1
  have h4 : I (tX i) 4 = 0 := (hE.tx i hi).1.2.2.2.1.trans h0
  have h1 : I (tX i) 1 = S 220 i := (hE.tx i hi).1.2.1
  have hpr : P (tX i) 3 = some (tX i + 32) := hTZ.pr
  have spA := sp_F_active1 (J := J) hC hB.e hi h4
  have spH := F_hasT1 (J := J) hC hB.e (a := (i : Int)) ⟨by omega, by omega⟩
  have spY := F_hasQ1 (J := J) hC hz (a := (y : Int)) ⟨by omega, by omega⟩
  have spG := sp_java_util_ArrayList_get (J := J) (I := I) (i := (y : Int)) hQL.1.1 (by rw [hz]; omega) (by rw [hz]; omega)
  rw [el] at spG
  have spR := result_no (J := J) hC hx hpr h1 hF sp
  refine Sp.ofV (by decide) (Or.inl rfl) rfl ?_
  refine VW.aload_n (pc' := 1) d_F_run_0 rfl rfl ?_
  refine VW.gP (ci := 10) (T := T10) (N := 11) (k := 1) (k' := 1) (pc' := 4) d_F_run_1 rfl lk_F_21 in10 rfl rfl rfl rfl (by first | exact hC.k 0 rfl | exact hC.k 9 rfl | exact hC.k 54 rfl | exact hx | exact hQ.k) (by first | exact hC.p 1 rfl | exact hC.p 4 rfl | exact hC.p 7 rfl | rfl) ?_
  refine VW.iload_n (pc' := 5) d_F_run_4 rfl rfl ?_
  refine VW.cV (ci := 0) (T := T0) (N := 8) (pc' := 8) d_F_run_5 rfl mv_Engine_hasTransaction lk_F_157 rfl (by first | exact hC.k 0 rfl | exact hC.k 9 rfl | exact hC.k 54 rfl | exact hx | exact hQ.k) rfl rfl rfl (by decide) (by decide) (spH) rfl rfl ?_
  refine VW.if_eq (tgt := 23) (pc' := 11) d_F_run_8 rfl rfl (fun c8 => ?_) (fun c8 => ?_)
  case refine_1 => exact absurd c8 (by decide)
  refine VW.aload_n (pc' := 12) d_F_run_11 rfl rfl ?_
  refine VW.iload_n (pc' := 13) d_F_run_12 rfl rfl ?_
  refine VW.cV (ci := 10) (T := T10) (N := 11) (pc' := 16) d_F_run_13 rfl mv_F_hasQuery lk_F_267 rfl (by first | exact hC.k 0 rfl | exact hC.k 9 rfl | exact hC.k 54 rfl | exact hx | exact hQ.k) rfl rfl rfl (by decide) (by decide) (spY) rfl rfl ?_
  refine VW.if_eq (tgt := 23) (pc' := 19) d_F_run_16 rfl rfl (fun c16 => ?_) (fun c16 => ?_)
  case refine_1 => exact absurd c16 (by decide)
  refine VW.iconst (pc' := 20) d_F_run_19 rfl (by decide) ?_
  refine VW.goto (pc' := 24) d_F_run_20 rfl ?_
  refine VW.callSX (pc' := 27) d_F_run_24 rfl (sp_F_demandPlace1 (by decide)) rfl ms_F_demandPlace.1 ms_F_demandPlace.2.1 rfl ms_F_demandPlace.2.2 lk_F_97 rfl rfl rfl (by decide) (by decide) (fun _ _ _ _ _ hz => by cases hz.1) (fun r _ _ _ _ hz => ?_)
  obtain ⟨z1, z2, z3, z4, z5⟩ := hz
  cases z1
  replace z2 := z2.symm; replace z3 := z3.symm; replace z4 := z4.symm; replace z5 := z5.symm
  subst z2; subst z3; subst z4; subst z5
  refine VW.aload_n (pc' := 28) d_F_run_27 rfl rfl ?_
  refine VW.iload_n (pc' := 29) d_F_run_28 rfl rfl ?_
  refine VW.callVX (ci := 10) (T := T10) (N := 11) (pc' := 32) d_F_run_29 rfl (spA) rfl mv_F_activeTransaction.1 mv_F_activeTransaction.2.1 rfl mv_F_activeTransaction.2.2.1 mv_F_activeTransaction.2.2.2 lk_F_160 rfl (by first | exact hC.k 0 rfl | exact hC.k 9 rfl | exact hC.k 54 rfl | exact hx | exact hQ.k) rfl rfl rfl (by decide) (by decide) (fun _ _ _ _ _ hz => by cases hz.1) (fun r _ _ _ _ hz => ?_)
  obtain ⟨z1, z2, z3, z4, z5⟩ := hz
  cases z1
  replace z2 := z2.symm; replace z3 := z3.symm; replace z4 := z4.symm; replace z5 := z5.symm
  subst z2; subst z3; subst z4; subst z5
  refine VW.astore_n (pc' := 33) d_F_run_32 rfl rfl ?_
  refine VW.aload_n (pc' := 34) d_F_run_33 rfl rfl ?_
  refine VW.gP (ci := 10) (T := T10) (N := 11) (k := 4) (k' := 4) (pc' := 37) d_F_run_34 rfl lk_F_42 in10 rfl rfl rfl rfl (by first | exact hC.k 0 rfl | exact hC.k 9 rfl | exact hC.k 54 rfl | exact hx | exact hQ.k) (by first | exact hC.p 1 rfl | exact hC.p 4 rfl | exact hC.p 7 rfl | rfl) ?_
  refine VW.iload_n (pc' := 38) d_F_run_37 rfl rfl ?_
  refine VW.cV (ci := 12) (T := T12) (N := 3) (pc' := 41) d_F_run_38 rfl mv_java_util_ArrayList_get lk_F_270 rfl (by first | exact hC.k 0 rfl | exact hC.k 9 rfl | exact hC.k 54 rfl | exact hx | exact hQ.k) rfl rfl rfl (by decide) (by decide) (spG) rfl rfl ?_
  refine VW.cast (ci := 4) (T := T4) (NN := 13) (pc' := 44) d_F_run_41 rfl lk_F_63 rfl (hQ.k) ?_
  refine VW.astore (pc' := 46) d_F_run_44 rfl rfl ?_
  refine VW.aload_n (pc' := 47) d_F_run_46 rfl rfl ?_
  refine VW.gP (ci := 10) (T := T10) (N := 11) (k := 7) (k' := 7) (pc' := 50) d_F_run_47 rfl lk_F_55 in10 rfl rfl rfl rfl (by first | exact hC.k 0 rfl | exact hC.k 9 rfl | exact hC.k 54 rfl | exact hx | exact hQ.k) (by first | exact hC.p 1 rfl | exact hC.p 4 rfl | exact hC.p 7 rfl | rfl) ?_
  refine VW.aload_n (pc' := 51) d_F_run_50 rfl rfl ?_
  refine VW.aload_n (pc' := 52) d_F_run_51 rfl rfl ?_
  refine VW.aload (pc' := 54) d_F_run_52 rfl rfl ?_
  refine VW.callVX (ci := 10) (T := T10) (N := 11) (pc' := 57) d_F_run_54 rfl (spR) rfl mv_F_resultFor.1 mv_F_resultFor.2.1 rfl mv_F_resultFor.2.2.1 mv_F_resultFor.2.2.2 lk_F_274 rfl (by first | exact hC.k 0 rfl | exact hC.k 9 rfl | exact hC.k 54 rfl | exact hx | exact hQ.k) rfl rfl rfl (by decide) (by decide) (fun E9 K9 P9 J9 I9 hz9 => ?_) (fun r9 K9 P9 J9 I9 hz9 => by cases hz9.1)
  exact Or.inl ⟨rfl, hz9⟩
  -- end
theorem abl_fail (hB : CB K P I n N g lq lv mv) (hE : ER I S n N g lv mv q) (hi : i < n) (h0 : S 221 i = 0) (hQL : QnL K P I nq lqq) (hy : y < nq) {F : Prop} (hF : F) {a b : Int}
    (sp : Sp m_Evaluator_evaluate false (rmv 7 280) (EvP K P J I F w L) K P J I [vR (some 1224), vR (some (qX y)), vR (some (tX i + 32)), vI (S 220 i)]) :
    Sp m_F_atByLoops true ({ frames := 12, cells := 1, slots := 6, locals := 400 } : Room) (fun r' K' P' J' I' => (r' = .inr eARE) ∧ K' = K ∧ J' = J ∧ EvW K P' ∧ (∀ o, ¬ nEv o → I' o = I o) ∧ (∀ o, o ≠ 1226 → P' o = P o) : PQ) K P J I [vR (some 1000), vI (i : Int), vI (y : Int), vI a, vI b] := by
  have hC := hB.c
  have n60 := hB.e.2.1
  have x0Z : 2000 ≤ tX i ∧ tX i + 128 ≤ 10000 := by unfold tX; omega
  obtain ⟨hTZ, hNT, hN17⟩ := hB.t hi
  have hx := hTZ.k
  have hQ := (hQL.2.2 y hy).2
  have hz : I 1480 2 = (nq : Int) := hQL.1.2.2.2.1.1
  have hcp := hQL.1.2.2.2.1.2.1
  have el := (hQL.2.2 y hy).1
  have h4 : I (tX i) 4 = 0 := (hE.tx i hi).1.2.2.2.1.trans h0
  have h1 : I (tX i) 1 = S 220 i := (hE.tx i hi).1.2.1
  have hpr : P (tX i) 3 = some (tX i + 32) := hTZ.pr
  have spA := sp_F_active1 (J := J) hC hB.e hi h4
  have spH := F_hasT1 (J := J) hC hB.e (a := (i : Int)) ⟨by omega, by omega⟩
  have spY := F_hasQ1 (J := J) hC hz (a := (y : Int)) ⟨by omega, by omega⟩
  have spG := sp_java_util_ArrayList_get (J := J) (I := I) (i := (y : Int)) hQL.1.1 (by rw [hz]; omega) (by rw [hz]; omega)
  rw [el] at spG
  have spR := result_no (J := J) hC hx hpr h1 hF sp
  refine Sp.ofV (by decide) (Or.inl rfl) rfl ?_
  refine VW.aload_n (pc' := 1) d_F_atByLoops_0 rfl rfl ?_
  refine VW.gP (ci := 10) (T := T10) (N := 11) (k := 1) (k' := 1) (pc' := 4) d_F_atByLoops_1 rfl lk_F_21 in10 rfl rfl rfl rfl (by first | exact hC.k 0 rfl | exact hC.k 9 rfl | exact hC.k 54 rfl | exact hx | exact hQ.k) (by first | exact hC.p 1 rfl | exact hC.p 4 rfl | exact hC.p 7 rfl | rfl) ?_
  refine VW.iload_n (pc' := 5) d_F_atByLoops_4 rfl rfl ?_
  refine VW.cV (ci := 0) (T := T0) (N := 8) (pc' := 8) d_F_atByLoops_5 rfl mv_Engine_hasTransaction lk_F_157 rfl (by first | exact hC.k 0 rfl | exact hC.k 9 rfl | exact hC.k 54 rfl | exact hx | exact hQ.k) rfl rfl rfl (by decide) (by decide) (spH) rfl rfl ?_
  refine VW.if_eq (tgt := 23) (pc' := 11) d_F_atByLoops_8 rfl rfl (fun c8 => ?_) (fun c8 => ?_)
  case refine_1 => exact absurd c8 (by decide)
  refine VW.aload_n (pc' := 12) d_F_atByLoops_11 rfl rfl ?_
  refine VW.iload_n (pc' := 13) d_F_atByLoops_12 rfl rfl ?_
  refine VW.cV (ci := 10) (T := T10) (N := 11) (pc' := 16) d_F_atByLoops_13 rfl mv_F_hasQuery lk_F_267 rfl (by first | exact hC.k 0 rfl | exact hC.k 9 rfl | exact hC.k 54 rfl | exact hx | exact hQ.k) rfl rfl rfl (by decide) (by decide) (spY) rfl rfl ?_
  refine VW.if_eq (tgt := 23) (pc' := 19) d_F_atByLoops_16 rfl rfl (fun c16 => ?_) (fun c16 => ?_)
  case refine_1 => exact absurd c16 (by decide)
  refine VW.iconst (pc' := 20) d_F_atByLoops_19 rfl (by decide) ?_
  refine VW.goto (pc' := 24) d_F_atByLoops_20 rfl ?_
  refine VW.callSX (pc' := 27) d_F_atByLoops_24 rfl (sp_F_demandPlace1 (by decide)) rfl ms_F_demandPlace.1 ms_F_demandPlace.2.1 rfl ms_F_demandPlace.2.2 lk_F_97 rfl rfl rfl (by decide) (by decide) (fun _ _ _ _ _ hz => by cases hz.1) (fun r _ _ _ _ hz => ?_)
  obtain ⟨z1, z2, z3, z4, z5⟩ := hz
  cases z1
  replace z2 := z2.symm; replace z3 := z3.symm; replace z4 := z4.symm; replace z5 := z5.symm
  subst z2; subst z3; subst z4; subst z5
  refine VW.aload_n (pc' := 28) d_F_atByLoops_27 rfl rfl ?_
  refine VW.iload_n (pc' := 29) d_F_atByLoops_28 rfl rfl ?_
  refine VW.callVX (ci := 10) (T := T10) (N := 11) (pc' := 32) d_F_atByLoops_29 rfl (spA) rfl mv_F_activeTransaction.1 mv_F_activeTransaction.2.1 rfl mv_F_activeTransaction.2.2.1 mv_F_activeTransaction.2.2.2 lk_F_160 rfl (by first | exact hC.k 0 rfl | exact hC.k 9 rfl | exact hC.k 54 rfl | exact hx | exact hQ.k) rfl rfl rfl (by decide) (by decide) (fun _ _ _ _ _ hz => by cases hz.1) (fun r _ _ _ _ hz => ?_)
  obtain ⟨z1, z2, z3, z4, z5⟩ := hz
  cases z1
  replace z2 := z2.symm; replace z3 := z3.symm; replace z4 := z4.symm; replace z5 := z5.symm
  subst z2; subst z3; subst z4; subst z5
  refine VW.astore (pc' := 34) d_F_atByLoops_32 rfl rfl ?_
  refine VW.aload_n (pc' := 35) d_F_atByLoops_34 rfl rfl ?_
  refine VW.aload (pc' := 37) d_F_atByLoops_35 rfl rfl ?_
  refine VW.aload_n (pc' := 38) d_F_atByLoops_37 rfl rfl ?_
  refine VW.gP (ci := 10) (T := T10) (N := 11) (k := 4) (k' := 4) (pc' := 41) d_F_atByLoops_38 rfl lk_F_42 in10 rfl rfl rfl rfl (by first | exact hC.k 0 rfl | exact hC.k 9 rfl | exact hC.k 54 rfl | exact hx | exact hQ.k) (by first | exact hC.p 1 rfl | exact hC.p 4 rfl | exact hC.p 7 rfl | rfl) ?_
  refine VW.iload_n (pc' := 42) d_F_atByLoops_41 rfl rfl ?_
  refine VW.cV (ci := 12) (T := T12) (N := 3) (pc' := 45) d_F_atByLoops_42 rfl mv_java_util_ArrayList_get lk_F_270 rfl (by first | exact hC.k 0 rfl | exact hC.k 9 rfl | exact hC.k 54 rfl | exact hx | exact hQ.k) rfl rfl rfl (by decide) (by decide) (spG) rfl rfl ?_
  refine VW.cast (ci := 4) (T := T4) (NN := 13) (pc' := 48) d_F_atByLoops_45 rfl lk_F_63 rfl (hQ.k) ?_
  refine VW.callVX (ci := 10) (T := T10) (N := 11) (pc' := 51) d_F_atByLoops_48 rfl (spR) rfl mv_F_resultFor.1 mv_F_resultFor.2.1 rfl mv_F_resultFor.2.2.1 mv_F_resultFor.2.2.2 lk_F_274 rfl (by first | exact hC.k 0 rfl | exact hC.k 9 rfl | exact hC.k 54 rfl | exact hx | exact hQ.k) rfl rfl rfl (by decide) (by decide) (fun E9 K9 P9 J9 I9 hz9 => ?_) (fun r9 K9 P9 J9 I9 hz9 => by cases hz9.1)
  exact Or.inl ⟨rfl, hz9⟩
  -- end
theorem cell_nth {T : IT} {e k : Nat} {M : List (List Int)} {a b : Int} (h : RelR T e k w M) (ha : 0 ≤ a ∧ a < M.length) (hb : 0 ≤ b ∧ b < w) : T k ((w : Int) * a + b) = nth (M.getD a.toNat []) b := by
  have e1Z : (seg T k 0 w M.length)[a.toNat]? = some (rowAt T k (0 + (w : Int) * ((a.toNat : Nat) : Int)) w) := seg_get (by omega)
  rw [h.2.2, show ((a.toNat : Nat) : Int) = a by omega, Int.zero_add] at e1Z
  rw [List.getD_eq_getElem?_getD, e1Z]
  show _ = nth (rowAt T k ((w : Int) * a) w) b
  rw [nth_rowAt hb.1 hb.2]
theorem abl_run (hB : CB K P I n N g lq lv mv) (hE : ER I S n N g lv mv q) (hi : i < n) (h0 : S 221 i = 0) (hQL : QnL K P I nq lqq) (hy : y < nq) {F : Prop} (hF : ¬ F) {a b : Int} {M0 : List (List Int)} (hM : M0.Perm L ∧ Ris M0) (hr : ∀ r ∈ L, r.length = w) (hw : w ≤ 10) (hl : L.length ≤ 512) (ha : 0 ≤ a ∧ a < M0.length) (hb : 0 ≤ b ∧ b < w)
    (sp : Sp m_Evaluator_evaluate false (rmv 7 280) (EvP K P J I F w L) K P J I [vR (some 1224), vR (some (qX y)), vR (some (tX i + 32)), vI (S 220 i)]) :
    Sp m_F_atByLoops true ({ frames := 12, cells := 0, slots := 0, locals := 400 } : Room) (fun r' K' P' J' I' => (r' = .inl (some (vI (nth (M0.getD a.toNat []) b)))) ∧ K' = K ∧ J' = J ∧ EvW K P' ∧ (∀ o, ¬ nEv o → I' o = I o) ∧ (∀ o, o ≠ 1226 → P' o = P o) : PQ) K P J I [vR (some 1000), vI (i : Int), vI (y : Int), vI a, vI b] := by
  have hC := hB.c
  have n60 := hB.e.2.1
  have x0Z : 2000 ≤ tX i ∧ tX i + 128 ≤ 10000 := by unfold tX; omega
  obtain ⟨hTZ, hNT, hN17⟩ := hB.t hi
  have hx := hTZ.k
  have hQ := (hQL.2.2 y hy).2
  have hz : I 1480 2 = (nq : Int) := hQL.1.2.2.2.1.1
  have hcp := hQL.1.2.2.2.1.2.1
  have el := (hQL.2.2 y hy).1
  have h4 : I (tX i) 4 = 0 := (hE.tx i hi).1.2.2.2.1.trans h0
  have h1 : I (tX i) 1 = S 220 i := (hE.tx i hi).1.2.1
  have hpr : P (tX i) 3 = some (tX i + 32) := hTZ.pr
  have spA := sp_F_active1 (J := J) hC hB.e hi h4
  have spH := F_hasT1 (J := J) hC hB.e (a := (i : Int)) ⟨by omega, by omega⟩
  have spY := F_hasQ1 (J := J) hC hz (a := (y : Int)) ⟨by omega, by omega⟩
  have spG := sp_java_util_ArrayList_get (J := J) (I := I) (i := (y : Int)) hQL.1.1 (by rw [hz]; omega) (by rw [hz]; omega)
  rw [el] at spG
  have spR := result_run (J := J) hC hx hpr h1 hF sp
  refine Sp.ofV (by decide) (Or.inl rfl) rfl ?_
  refine VW.aload_n (pc' := 1) d_F_atByLoops_0 rfl rfl ?_
  refine VW.gP (ci := 10) (T := T10) (N := 11) (k := 1) (k' := 1) (pc' := 4) d_F_atByLoops_1 rfl lk_F_21 in10 rfl rfl rfl rfl (by first | exact hC.k 0 rfl | exact hC.k 9 rfl | exact hC.k 54 rfl | exact hx | exact hQ.k) (by first | exact hC.p 1 rfl | exact hC.p 4 rfl | exact hC.p 7 rfl | rfl) ?_
  refine VW.iload_n (pc' := 5) d_F_atByLoops_4 rfl rfl ?_
  refine VW.cV (ci := 0) (T := T0) (N := 8) (pc' := 8) d_F_atByLoops_5 rfl mv_Engine_hasTransaction lk_F_157 rfl (by first | exact hC.k 0 rfl | exact hC.k 9 rfl | exact hC.k 54 rfl | exact hx | exact hQ.k) rfl rfl rfl (by decide) (by decide) (spH) rfl rfl ?_
  refine VW.if_eq (tgt := 23) (pc' := 11) d_F_atByLoops_8 rfl rfl (fun c8 => ?_) (fun c8 => ?_)
  case refine_1 => exact absurd c8 (by decide)
  refine VW.aload_n (pc' := 12) d_F_atByLoops_11 rfl rfl ?_
  refine VW.iload_n (pc' := 13) d_F_atByLoops_12 rfl rfl ?_
  refine VW.cV (ci := 10) (T := T10) (N := 11) (pc' := 16) d_F_atByLoops_13 rfl mv_F_hasQuery lk_F_267 rfl (by first | exact hC.k 0 rfl | exact hC.k 9 rfl | exact hC.k 54 rfl | exact hx | exact hQ.k) rfl rfl rfl (by decide) (by decide) (spY) rfl rfl ?_
  refine VW.if_eq (tgt := 23) (pc' := 19) d_F_atByLoops_16 rfl rfl (fun c16 => ?_) (fun c16 => ?_)
  case refine_1 => exact absurd c16 (by decide)
  refine VW.iconst (pc' := 20) d_F_atByLoops_19 rfl (by decide) ?_
  refine VW.goto (pc' := 24) d_F_atByLoops_20 rfl ?_
  refine VW.callSX (pc' := 27) d_F_atByLoops_24 rfl (sp_F_demandPlace1 (by decide)) rfl ms_F_demandPlace.1 ms_F_demandPlace.2.1 rfl ms_F_demandPlace.2.2 lk_F_97 rfl rfl rfl (by decide) (by decide) (fun _ _ _ _ _ hz => by cases hz.1) (fun r _ _ _ _ hz => ?_)
  obtain ⟨z1, z2, z3, z4, z5⟩ := hz
  cases z1
  replace z2 := z2.symm; replace z3 := z3.symm; replace z4 := z4.symm; replace z5 := z5.symm
  subst z2; subst z3; subst z4; subst z5
  refine VW.aload_n (pc' := 28) d_F_atByLoops_27 rfl rfl ?_
  refine VW.iload_n (pc' := 29) d_F_atByLoops_28 rfl rfl ?_
  refine VW.callVX (ci := 10) (T := T10) (N := 11) (pc' := 32) d_F_atByLoops_29 rfl (spA) rfl mv_F_activeTransaction.1 mv_F_activeTransaction.2.1 rfl mv_F_activeTransaction.2.2.1 mv_F_activeTransaction.2.2.2 lk_F_160 rfl (by first | exact hC.k 0 rfl | exact hC.k 9 rfl | exact hC.k 54 rfl | exact hx | exact hQ.k) rfl rfl rfl (by decide) (by decide) (fun _ _ _ _ _ hz => by cases hz.1) (fun r _ _ _ _ hz => ?_)
  obtain ⟨z1, z2, z3, z4, z5⟩ := hz
  cases z1
  replace z2 := z2.symm; replace z3 := z3.symm; replace z4 := z4.symm; replace z5 := z5.symm
  subst z2; subst z3; subst z4; subst z5
  refine VW.astore (pc' := 34) d_F_atByLoops_32 rfl rfl ?_
  refine VW.aload_n (pc' := 35) d_F_atByLoops_34 rfl rfl ?_
  refine VW.aload (pc' := 37) d_F_atByLoops_35 rfl rfl ?_
  refine VW.aload_n (pc' := 38) d_F_atByLoops_37 rfl rfl ?_
  refine VW.gP (ci := 10) (T := T10) (N := 11) (k := 4) (k' := 4) (pc' := 41) d_F_atByLoops_38 rfl lk_F_42 in10 rfl rfl rfl rfl (by first | exact hC.k 0 rfl | exact hC.k 9 rfl | exact hC.k 54 rfl | exact hx | exact hQ.k) (by first | exact hC.p 1 rfl | exact hC.p 4 rfl | exact hC.p 7 rfl | rfl) ?_
  refine VW.iload_n (pc' := 42) d_F_atByLoops_41 rfl rfl ?_
  refine VW.cV (ci := 12) (T := T12) (N := 3) (pc' := 45) d_F_atByLoops_42 rfl mv_java_util_ArrayList_get lk_F_270 rfl (by first | exact hC.k 0 rfl | exact hC.k 9 rfl | exact hC.k 54 rfl | exact hx | exact hQ.k) rfl rfl rfl (by decide) (by decide) (spG) rfl rfl ?_
  refine VW.cast (ci := 4) (T := T4) (NN := 13) (pc' := 48) d_F_atByLoops_45 rfl lk_F_63 rfl (hQ.k) ?_
  refine VW.callVX (ci := 10) (T := T10) (N := 11) (pc' := 51) d_F_atByLoops_48 rfl (spR) rfl mv_F_resultFor.1 mv_F_resultFor.2.1 rfl mv_F_resultFor.2.2.1 mv_F_resultFor.2.2.2 lk_F_274 rfl (by first | exact hC.k 0 rfl | exact hC.k 9 rfl | exact hC.k 54 rfl | exact hx | exact hQ.k) rfl rfl rfl (by decide) (by decide) (fun _ _ _ _ _ hz9 => by rcases hz9.2.2.2.2.2 with ⟨_, vZ⟩ | ⟨_, _, _, vZ, _⟩ <;> cases vZ) (fun r9 K9 P9 J9 I9 hz9 => ?_)
  obtain ⟨y1, y2, y3, y4, y5, y6⟩ := hz9
  replace y1 := y1.symm; replace y2 := y2.symm
  subst y1; subst y2
  rcases y6 with ⟨fZ, -⟩ | ⟨-, eZ, MZ, g0, ⟨g1, g2, g3Z⟩, g4, g5Z, g6⟩
  · exact absurd fZ hF
  cases g0
  have C2Z := hC.evp y5
  have mlZ : MZ.length = L.length := g5Z.length_eq
  have ee := g1.ev
  have ee2 := g2.ev
  unfold nEv at ee ee2
  have em : MZ = M0 := ris_one (w := w) (g5Z.trans hM.1.symm) g6 hM.2 (fun r h => hr r (g5Z.mem_iff.mp h))
  subst em
  have spC := cellAt_run (J := J) (I := I9) (b := a) (c := b) g3Z g4 hw (by omega) ha hb
  have ec := cell_nth g4 ha hb
  rw [ec] at spC
  have finZ : (fun r' K' P' J' I' => (r' = .inl (some (vI (nth (MZ.getD a.toNat []) b)))) ∧ K' = K ∧ J' = J ∧ EvW K P' ∧ (∀ o, ¬ nEv o → I' o = I o) ∧ (∀ o, o ≠ 1226 → P' o = P o) : PQ) (.inl (some (vI (nth (MZ.getD a.toNat []) b)))) K P9 J I9 := ⟨rfl, rfl, rfl, y3, y4, y5⟩
  refine VW.iload_n (pc' := 52) d_F_atByLoops_51 rfl rfl ?_
  refine VW.iload (pc' := 54) d_F_atByLoops_52 rfl rfl ?_
  refine VW.callSX (pc' := 57) d_F_atByLoops_54 rfl (spC) rfl ms_F_cellAt.1 ms_F_cellAt.2.1 rfl ms_F_cellAt.2.2 lk_F_287 rfl rfl rfl (by decide) (by decide) (fun _ _ _ _ _ hz => by cases hz.1) (fun r _ _ _ _ hz => ?_)
  obtain ⟨z1, z2, z3, z4, z5⟩ := hz
  cases z1
  replace z2 := z2.symm; replace z3 := z3.symm; replace z4 := z4.symm; replace z5 := z5.symm
  subst z2; subst z3; subst z4; subst z5
  exact VW.iret d_F_atByLoops_57 rfl rfl (by decide) (by decide) finZ
theorem abl_no (hB : CB K P I n N g lq lv mv) (hE : ER I S n N g lv mv q) (hi : i < n) (h0 : S 221 i = 0) (hQL : QnL K P I nq lqq) (hy : y < nq) {F : Prop} (hF : ¬ F) {a b : Int} {M0 : List (List Int)} (hM : M0.Perm L ∧ Ris M0) (hr : ∀ r ∈ L, r.length = w) (hab : ¬ ((0 ≤ a ∧ a < M0.length) ∧ 0 ≤ b ∧ b < w))
    (sp : Sp m_Evaluator_evaluate false (rmv 7 280) (EvP K P J I F w L) K P J I [vR (some 1224), vR (some (qX y)), vR (some (tX i + 32)), vI (S 220 i)]) :
    Sp m_F_atByLoops true ({ frames := 12, cells := 1, slots := 6, locals := 400 } : Room) (fun r' K' P' J' I' => (r' = .inr eIOO) ∧ K' = K ∧ J' = J ∧ EvW K P' ∧ (∀ o, ¬ nEv o → I' o = I o) ∧ (∀ o, o ≠ 1226 → P' o = P o) : PQ) K P J I [vR (some 1000), vI (i : Int), vI (y : Int), vI a, vI b] := by
  have hC := hB.c
  have n60 := hB.e.2.1
  have x0Z : 2000 ≤ tX i ∧ tX i + 128 ≤ 10000 := by unfold tX; omega
  obtain ⟨hTZ, hNT, hN17⟩ := hB.t hi
  have hx := hTZ.k
  have hQ := (hQL.2.2 y hy).2
  have hz : I 1480 2 = (nq : Int) := hQL.1.2.2.2.1.1
  have hcp := hQL.1.2.2.2.1.2.1
  have el := (hQL.2.2 y hy).1
  have h4 : I (tX i) 4 = 0 := (hE.tx i hi).1.2.2.2.1.trans h0
  have h1 : I (tX i) 1 = S 220 i := (hE.tx i hi).1.2.1
  have hpr : P (tX i) 3 = some (tX i + 32) := hTZ.pr
  have spA := sp_F_active1 (J := J) hC hB.e hi h4
  have spH := F_hasT1 (J := J) hC hB.e (a := (i : Int)) ⟨by omega, by omega⟩
  have spY := F_hasQ1 (J := J) hC hz (a := (y : Int)) ⟨by omega, by omega⟩
  have spG := sp_java_util_ArrayList_get (J := J) (I := I) (i := (y : Int)) hQL.1.1 (by rw [hz]; omega) (by rw [hz]; omega)
  rw [el] at spG
  have spR := result_run (J := J) hC hx hpr h1 hF sp
  refine Sp.ofV (by decide) (Or.inl rfl) rfl ?_
  refine VW.aload_n (pc' := 1) d_F_atByLoops_0 rfl rfl ?_
  refine VW.gP (ci := 10) (T := T10) (N := 11) (k := 1) (k' := 1) (pc' := 4) d_F_atByLoops_1 rfl lk_F_21 in10 rfl rfl rfl rfl (by first | exact hC.k 0 rfl | exact hC.k 9 rfl | exact hC.k 54 rfl | exact hx | exact hQ.k) (by first | exact hC.p 1 rfl | exact hC.p 4 rfl | exact hC.p 7 rfl | rfl) ?_
  refine VW.iload_n (pc' := 5) d_F_atByLoops_4 rfl rfl ?_
  refine VW.cV (ci := 0) (T := T0) (N := 8) (pc' := 8) d_F_atByLoops_5 rfl mv_Engine_hasTransaction lk_F_157 rfl (by first | exact hC.k 0 rfl | exact hC.k 9 rfl | exact hC.k 54 rfl | exact hx | exact hQ.k) rfl rfl rfl (by decide) (by decide) (spH) rfl rfl ?_
  refine VW.if_eq (tgt := 23) (pc' := 11) d_F_atByLoops_8 rfl rfl (fun c8 => ?_) (fun c8 => ?_)
  case refine_1 => exact absurd c8 (by decide)
  refine VW.aload_n (pc' := 12) d_F_atByLoops_11 rfl rfl ?_
  refine VW.iload_n (pc' := 13) d_F_atByLoops_12 rfl rfl ?_
  refine VW.cV (ci := 10) (T := T10) (N := 11) (pc' := 16) d_F_atByLoops_13 rfl mv_F_hasQuery lk_F_267 rfl (by first | exact hC.k 0 rfl | exact hC.k 9 rfl | exact hC.k 54 rfl | exact hx | exact hQ.k) rfl rfl rfl (by decide) (by decide) (spY) rfl rfl ?_
  refine VW.if_eq (tgt := 23) (pc' := 19) d_F_atByLoops_16 rfl rfl (fun c16 => ?_) (fun c16 => ?_)
  case refine_1 => exact absurd c16 (by decide)
  refine VW.iconst (pc' := 20) d_F_atByLoops_19 rfl (by decide) ?_
  refine VW.goto (pc' := 24) d_F_atByLoops_20 rfl ?_
  refine VW.callSX (pc' := 27) d_F_atByLoops_24 rfl (sp_F_demandPlace1 (by decide)) rfl ms_F_demandPlace.1 ms_F_demandPlace.2.1 rfl ms_F_demandPlace.2.2 lk_F_97 rfl rfl rfl (by decide) (by decide) (fun _ _ _ _ _ hz => by cases hz.1) (fun r _ _ _ _ hz => ?_)
  obtain ⟨z1, z2, z3, z4, z5⟩ := hz
  cases z1
  replace z2 := z2.symm; replace z3 := z3.symm; replace z4 := z4.symm; replace z5 := z5.symm
  subst z2; subst z3; subst z4; subst z5
  refine VW.aload_n (pc' := 28) d_F_atByLoops_27 rfl rfl ?_
  refine VW.iload_n (pc' := 29) d_F_atByLoops_28 rfl rfl ?_
  refine VW.callVX (ci := 10) (T := T10) (N := 11) (pc' := 32) d_F_atByLoops_29 rfl (spA) rfl mv_F_activeTransaction.1 mv_F_activeTransaction.2.1 rfl mv_F_activeTransaction.2.2.1 mv_F_activeTransaction.2.2.2 lk_F_160 rfl (by first | exact hC.k 0 rfl | exact hC.k 9 rfl | exact hC.k 54 rfl | exact hx | exact hQ.k) rfl rfl rfl (by decide) (by decide) (fun _ _ _ _ _ hz => by cases hz.1) (fun r _ _ _ _ hz => ?_)
  obtain ⟨z1, z2, z3, z4, z5⟩ := hz
  cases z1
  replace z2 := z2.symm; replace z3 := z3.symm; replace z4 := z4.symm; replace z5 := z5.symm
  subst z2; subst z3; subst z4; subst z5
  refine VW.astore (pc' := 34) d_F_atByLoops_32 rfl rfl ?_
  refine VW.aload_n (pc' := 35) d_F_atByLoops_34 rfl rfl ?_
  refine VW.aload (pc' := 37) d_F_atByLoops_35 rfl rfl ?_
  refine VW.aload_n (pc' := 38) d_F_atByLoops_37 rfl rfl ?_
  refine VW.gP (ci := 10) (T := T10) (N := 11) (k := 4) (k' := 4) (pc' := 41) d_F_atByLoops_38 rfl lk_F_42 in10 rfl rfl rfl rfl (by first | exact hC.k 0 rfl | exact hC.k 9 rfl | exact hC.k 54 rfl | exact hx | exact hQ.k) (by first | exact hC.p 1 rfl | exact hC.p 4 rfl | exact hC.p 7 rfl | rfl) ?_
  refine VW.iload_n (pc' := 42) d_F_atByLoops_41 rfl rfl ?_
  refine VW.cV (ci := 12) (T := T12) (N := 3) (pc' := 45) d_F_atByLoops_42 rfl mv_java_util_ArrayList_get lk_F_270 rfl (by first | exact hC.k 0 rfl | exact hC.k 9 rfl | exact hC.k 54 rfl | exact hx | exact hQ.k) rfl rfl rfl (by decide) (by decide) (spG) rfl rfl ?_
  refine VW.cast (ci := 4) (T := T4) (NN := 13) (pc' := 48) d_F_atByLoops_45 rfl lk_F_63 rfl (hQ.k) ?_
  refine VW.callVX (ci := 10) (T := T10) (N := 11) (pc' := 51) d_F_atByLoops_48 rfl (spR) rfl mv_F_resultFor.1 mv_F_resultFor.2.1 rfl mv_F_resultFor.2.2.1 mv_F_resultFor.2.2.2 lk_F_274 rfl (by first | exact hC.k 0 rfl | exact hC.k 9 rfl | exact hC.k 54 rfl | exact hx | exact hQ.k) rfl rfl rfl (by decide) (by decide) (fun _ _ _ _ _ hz9 => by rcases hz9.2.2.2.2.2 with ⟨_, vZ⟩ | ⟨_, _, _, vZ, _⟩ <;> cases vZ) (fun r9 K9 P9 J9 I9 hz9 => ?_)
  obtain ⟨y1, y2, y3, y4, y5, y6⟩ := hz9
  replace y1 := y1.symm; replace y2 := y2.symm
  subst y1; subst y2
  rcases y6 with ⟨fZ, -⟩ | ⟨-, eZ, MZ, g0, ⟨g1, g2, g3Z⟩, g4, g5Z, g6⟩
  · exact absurd fZ hF
  cases g0
  have C2Z := hC.evp y5
  have mlZ : MZ.length = L.length := g5Z.length_eq
  have ee := g1.ev
  have ee2 := g2.ev
  unfold nEv at ee ee2
  have em : MZ = M0 := ris_one (w := w) (g5Z.trans hM.1.symm) g6 hM.2 (fun r h => hr r (g5Z.mem_iff.mp h))
  subst em
  have spC := cellAt_no (J := J) (I := I9) (b := a) (c := b) g3Z g4 hab
  have finZ : (fun r' K' P' J' I' => (r' = .inr eIOO) ∧ K' = K ∧ J' = J ∧ EvW K P' ∧ (∀ o, ¬ nEv o → I' o = I o) ∧ (∀ o, o ≠ 1226 → P' o = P o) : PQ) (.inr eIOO) K P9 J I9 := ⟨rfl, rfl, rfl, y3, y4, y5⟩
  refine VW.iload_n (pc' := 52) d_F_atByLoops_51 rfl rfl ?_
  refine VW.iload (pc' := 54) d_F_atByLoops_52 rfl rfl ?_
  refine VW.callSX (pc' := 57) d_F_atByLoops_54 rfl (spC) rfl ms_F_cellAt.1 ms_F_cellAt.2.1 rfl ms_F_cellAt.2.2 lk_F_287 rfl rfl rfl (by decide) (by decide) (fun _ _ _ _ _ hz => ?_) (fun _ _ _ _ _ hz => by cases hz.1)
  obtain ⟨z1, z2, z3, z4, z5⟩ := hz
  cases z1
  replace z2 := z2.symm; replace z3 := z3.symm; replace z4 := z4.symm; replace z5 := z5.symm
  subst z2; subst z3; subst z4; subst z5
  exact Or.inl ⟨rfl, finZ⟩
  -- end
end
