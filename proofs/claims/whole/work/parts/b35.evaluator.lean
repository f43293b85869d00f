/-! the class evaluates a query as the reference would -/
section
variable {K : KT} {P : PT} {J I S : IT} {r a qn n w c : Nat} {s y q : Int}
/-- the evaluator's names; its results' -/
def nEv (o : Nat) : Prop := 1224 ≤ o ∧ o < 1384
def nRl (o : Nat) : Prop := o = 1256 ∨ o = 1257 ∨ o = 1288 ∨ o = 1289 ∨ o = 1320 ∨ o = 1321 ∨ o = 1352 ∨ o = 1353
theorem nRl.ev {o : Nat} (h : nRl o) : nEv o := by unfold nRl at h; unfold nEv; omega
def EvW (K : KT) (P : PT) : Prop := ∃ e : Nat → Nat, StW K P 1224 1226 e ∧ ∀ i : Nat, i < 4 → nRl (e i) ∧ nRl (e i + 1)
/-- the ends of evaluating: F: it fails -/
def EvP (K : KT) (P : PT) (J I : IT) (F : Prop) (w : Nat) (L : List (List Int)) : PQ := fun r' K' P' J' I' => K' = K ∧ J' = J ∧ EvW K P' ∧ (∀ o, ¬ nEv o → I' o = I o) ∧ (∀ o, o ≠ 1226 → P' o = P o) ∧ ((F ∧ r' = .inl (some (vR none))) ∨ (¬ F ∧ ∃ (e : Nat) (M : List (List Int)), r' = .inl (some (vR (some e))) ∧ (nRl e ∧ nRl (e + 1) ∧ ReW K P' e (e + 1) 5120) ∧ RelR I' e (e + 1) w M ∧ M.Perm L ∧ Ris M))
theorem nRl_k (hC : ClW K P) {o : Nat} (h : nRl o) : K o = some (5, 0) ∨ K o = some (100, 5120) := by
  rcases h with rfl | rfl | rfl | rfl | rfl | rfl | rfl | rfl
  · exact Or.inl (hC.k 31 rfl)
  · exact Or.inr (hC.k 32 rfl)
  · exact Or.inl (hC.k 33 rfl)
  · exact Or.inr (hC.k 34 rfl)
  · exact Or.inl (hC.k 35 rfl)
  · exact Or.inr (hC.k 36 rfl)
  · exact Or.inl (hC.k 37 rfl)
  · exact Or.inr (hC.k 38 rfl)
theorem eval_cls (hC : ClW K P) (hEv : EvW K P) (hR : RSch I S) (hs : SSch S) (hr : RwW K P r a) (ha : ¬ nEv a) (hQ : QuW K P qn) (hE : RowEq I a S s) (hW : RWc I a) (hm : RWm S s) (hq : QV S (12 * (q + 1)) n) (hQe : QRe I S qn (12 * (q + 1)) n) (hn : S 262 q = n) (hw : wsT S (12 * (q + 1)) n = [(w, c)]) :
    ∃ L, FnOK S s y q n w L ∧ (∀ r ∈ L, r.length = w) ∧ Sp m_Evaluator_evaluate false (rmv 7 280) (EvP K P J I (evF S s y (12 * (q + 1)) n) w L) K P J I [vR (some 1224), vR (some qn), vR (some r), vI y] := by
  obtain ⟨L, LC, f1, f2, f3, f4, f5⟩ := q_ok (y := y) (a := a) hR hs hE hW hm hq hQe hn hw
  obtain ⟨e, he1, he2⟩ := hEv
  have h6 := hs.2.2.2.2.2.2.1
  refine ⟨L, f1, f4, ?_⟩
  have hw' : SpW K P I 1224 1226 1032 1227 1228 1229 1034 1035 1036 1037 1038 1040 r a qn e nRl := by
    refine ⟨⟨he1, he2, fun o ho => ⟨fun z => ha (z ▸ ho.ev), fun z => ?_, fun z => ?_⟩⟩, ⟨hC.p 33 rfl, ⟨hC.p 35 rfl, hC.k 28 rfl⟩, ⟨hC.p 36 rfl, hC.k 29 rfl⟩, hC.p 37 rfl, hC.k 30 rfl⟩, hC.sc, hr, hQ, ?_, fun j j0 j1 => ?_⟩
    · rw [z] at ho; unfold nRl at ho; omega
    · rw [z] at ho; unfold nRl at ho; omega
    · rw [hR.2.2.2.2.1]; exact h6
    · rw [hR.2.2.2.2.1] at j1
      rw [(hR.2.2.2.2.2 j j0 j1).2.2.1]
      exact hs.2.2.2.2.2.2.2.1 j
  refine Sp.weak (sp_Evaluator_evaluate hw' (fun o ho => nRl_k hC ho) (by decide) f2) (fun r' K' P' J' I' hz => ?_)
  obtain ⟨z1, z2, ⟨e', ⟨z3, z4⟩, z5⟩, z6, z7⟩ := hz
  subst z1
  refine ⟨rfl, z2, ⟨e', z3, z4⟩, fun o ho => z6 o (fun z => ho (by unfold nEv; omega)) (fun z => ho (by unfold nEv; omega)) (fun z => ho (by unfold nEv; omega)) (fun z => ho (by unfold nEv; omega)) (fun z => ho z.ev), z7, ?_⟩
  rcases z5 with ⟨q1, q2⟩ | ⟨q1, M, q2, q3, q4, q5⟩
  · exact Or.inl ⟨f5.mp q1, q2⟩
  · refine Or.inr ⟨fun z => q1 (f5.mpr z), e' 1, M, q2, ⟨(z4 1 (by decide)).1, (z4 1 (by decide)).2, (z3.2.2.2.1 1 (by decide)).2⟩, q3, q4.trans f3, q5⟩
theorem ClW.evp {P' : PT} (hC : ClW K P) (h : ∀ o, o ≠ 1226 → P' o = P o) : ClW K P' := hC.fr (fun _ _ => rfl) (fun o ho => h o (fun z => by rw [z] at ho; exact absurd ho (by decide)))
theorem RelR.fr {e c w : Nat} {L : List (List Int)} {T : IT} (h : RelR I e c w L) (h1 : T e = I e) (h2 : T c = I c) : RelR T e c w L := by
  unfold RelR at *
  rw [h1]
  refine ⟨h.1, h.2.1, ?_⟩
  have e3 : seg T c 0 w L.length = seg I c 0 w L.length := seg_congr (fun q _ _ => by rw [h2])
  rw [e3]
  exact h.2.2
end
/-! what comes of a query; a cell of it -/
theorem tARE : ThrOK "RowForge" 375 377 "java/lang/ArithmeticException" := ⟨by decide +kernel, by decide +kernel, by decide +kernel, by decide +kernel, by decide +kernel⟩
abbrev eARE : String := "java/lang/ArithmeticException"
section
variable {K : KT} {P : PT} {J I S : IT} {r a qn n w t : Nat} {s y q b c : Int} {F : Prop} {L : List (List Int)}
def rmH0 : Room := { frames := 9, cells := 0, slots := 0, locals := 320 }
def rmH1 : Room := { frames := 9, cells := 1, slots := 6, locals := 320 }
theorem result_run (hC : ClW K P) (hT : K t = some (8, 0)) (hp : P t 3 = some r) (h1 : I t 1 = y) (hF : ¬ F) (sp : Sp m_Evaluator_evaluate false (rmv 7 280) (EvP K P J I F w L) K P J I [vR (some 1224), vR (some qn), vR (some r), vI y]) : Sp m_F_resultFor true rmH0 (EvP K P J I F w L) K P J I [vR (some 1000), vR (some t), vR (some qn)] := by
  refine Sp.ofV (by decide) (Or.inl rfl) rfl ?_
  refine VW.aload_n (pc' := 1) d_F_resultFor_0 rfl rfl ?_
  refine VW.gP (ci := 10) (T := T10) (N := 11) (k := 2) (k' := 2) (pc' := 4) d_F_resultFor_1 rfl lk_F_28 in10 rfl rfl rfl rfl (by first | exact hC.k 0 rfl | exact hC.k 26 rfl | exact hT | exact hG.1) (by first | exact hC.p 2 rfl | exact hp | exact h1 | rfl) ?_
  refine VW.aload_n (pc' := 5) d_F_resultFor_4 rfl rfl ?_
  refine VW.aload_n (pc' := 6) d_F_resultFor_5 rfl rfl ?_
  refine VW.gP (ci := 8) (T := T8) (N := 19) (k := 3) (k' := 3) (pc' := 9) d_F_resultFor_6 rfl lk_F_212 in8 rfl rfl rfl rfl (by first | exact hC.k 0 rfl | exact hC.k 26 rfl | exact hT | exact hG.1) (by first | exact hC.p 2 rfl | exact hp | exact h1 | rfl) ?_
  refine VW.aload_n (pc' := 10) d_F_resultFor_9 rfl rfl ?_
  refine VW.gI (ci := 8) (T := T8) (N := 19) (k := 1) (k' := 1) (pc' := 13) d_F_resultFor_10 rfl lk_F_372 in8 rfl rfl rfl rfl (by first | exact hC.k 0 rfl | exact hC.k 26 rfl | exact hT | exact hG.1) (by first | exact hC.p 2 rfl | exact hp | exact h1 | rfl) ?_
  refine VW.cVq (ci := 1) (T := T1) (N := 7) (pc' := 16) d_F_resultFor_13 rfl mv_Evaluator_evaluate lk_F_318 rfl (by first | exact hC.k 0 rfl | exact hC.k 26 rfl | exact hT | exact hG.1) rfl rfl rfl (by decide) (by decide) (sp) rfl rfl (fun r9 K9 P9 J9 I9 hz => ?_)
  obtain ⟨y1, y2, y3, y4, y5, y6⟩ := hz
  replace y1 := y1.symm; replace y2 := y2.symm
  subst y1; subst y2
  rcases y6 with ⟨f, -⟩ | ⟨-, e, M, f1, f2, f3, f4, f5⟩
  · exact absurd f hF
  have fin : EvP K P J I F w L (.inl (some (vR (some e)))) K P9 J I9 := ⟨rfl, rfl, y3, y4, y5, Or.inr ⟨hF, e, M, rfl, f2, f3, f4, f5⟩⟩
  cases f1
  refine VW.astore_n (pc' := 17) d_F_resultFor_16 rfl rfl ?_
  refine VW.aload_n (pc' := 18) d_F_resultFor_17 rfl rfl ?_
  refine VW.ifnonnull (pc' := 29) d_F_resultFor_18 rfl ?_
  refine VW.aload_n (pc' := 30) d_F_resultFor_29 rfl rfl ?_
  exact VW.aret d_F_resultFor_30 rfl (by first | exact Or.inl ⟨_, rfl⟩ | exact Or.inr ⟨_, rfl⟩) (by decide) (by decide) fin
theorem result_no (hC : ClW K P) (hT : K t = some (8, 0)) (hp : P t 3 = some r) (h1 : I t 1 = y) (hF : F) (sp : Sp m_Evaluator_evaluate false (rmv 7 280) (EvP K P J I F w L) K P J I [vR (some 1224), vR (some qn), vR (some r), vI y]) : Sp m_F_resultFor true rmH1 (fun r' K' P' J' I' => r' = .inr eARE ∧ K' = K ∧ J' = J ∧ EvW K P' ∧ (∀ o, ¬ nEv o → I' o = I o) ∧ (∀ o, o ≠ 1226 → P' o = P o) : PQ) K P J I [vR (some 1000), vR (some t), vR (some qn)] := by
  refine Sp.ofV (by decide) (Or.inl rfl) rfl ?_
  refine VW.aload_n (pc' := 1) d_F_resultFor_0 rfl rfl ?_
  refine VW.gP (ci := 10) (T := T10) (N := 11) (k := 2) (k' := 2) (pc' := 4) d_F_resultFor_1 rfl lk_F_28 in10 rfl rfl rfl rfl (by first | exact hC.k 0 rfl | exact hC.k 26 rfl | exact hT | exact hG.1) (by first | exact hC.p 2 rfl | exact hp | exact h1 | rfl) ?_
  refine VW.aload_n (pc' := 5) d_F_resultFor_4 rfl rfl ?_
  refine VW.aload_n (pc' := 6) d_F_resultFor_5 rfl rfl ?_
  refine VW.gP (ci := 8) (T := T8) (N := 19) (k := 3) (k' := 3) (pc' := 9) d_F_resultFor_6 rfl lk_F_212 in8 rfl rfl rfl rfl (by first | exact hC.k 0 rfl | exact hC.k 26 rfl | exact hT | exact hG.1) (by first | exact hC.p 2 rfl | exact hp | exact h1 | rfl) ?_
  refine VW.aload_n (pc' := 10) d_F_resultFor_9 rfl rfl ?_
  refine VW.gI (ci := 8) (T := T8) (N := 19) (k := 1) (k' := 1) (pc' := 13) d_F_resultFor_10 rfl lk_F_372 in8 rfl rfl rfl rfl (by first | exact hC.k 0 rfl | exact hC.k 26 rfl | exact hT | exact hG.1) (by first | exact hC.p 2 rfl | exact hp | exact h1 | rfl) ?_
  refine VW.cVq (ci := 1) (T := T1) (N := 7) (pc' := 16) d_F_resultFor_13 rfl mv_Evaluator_evaluate lk_F_318 rfl (by first | exact hC.k 0 rfl | exact hC.k 26 rfl | exact hT | exact hG.1) rfl rfl rfl (by decide) (by decide) (sp) rfl rfl (fun r9 K9 P9 J9 I9 hz => ?_)
  obtain ⟨y1, y2, y3, y4, y5, y6⟩ := hz
  replace y1 := y1.symm; replace y2 := y2.symm
  subst y1; subst y2
  rcases y6 with ⟨-, f⟩ | ⟨f, -⟩
  case inr => exact absurd hF f
  cases f
  refine VW.astore_nN (pc' := 17) d_F_resultFor_16 rfl rfl ?_
  refine VW.aload_nN (pc' := 18) d_F_resultFor_17 rfl rfl ?_
  refine VW.ifnonnullN (pc' := 21) d_F_resultFor_18 rfl ?_
  exact VW.throw0 d_F_resultFor_21 d_F_resultFor_24 d_F_resultFor_25 d_F_resultFor_28 tARE rfl (by decide) (by decide) (by decide) (by decide) ⟨rfl, rfl, rfl, y3, y4, y5⟩
  -- end
theorem cellAt_run {e k : Nat} {M : List (List Int)} (hG : ReW K P e k 5120) (hR : RelR I e k w M) (hw : w ≤ 10) (hM : M.length ≤ 512) (hb : 0 ≤ b ∧ b < M.length) (hc : 0 ≤ c ∧ c < w) : Sp m_F_cellAt true rmE0 (ex K P J I (.inl (some (vI (I k ((w : Int) * b + c)))))) K P J I [vR (some e), vI b, vI c] := by
  have q1 := mulNN (w := (w : Int)) (k := b) (by omega) hb.1
  have q2 := rowIn (w := (w : Int)) (n := (M.length : Int)) (k := b) (c := c) (by omega) hb.2 hc.2
  have q3 := mulUp (w := (w : Int)) (k := (M.length : Int)) (W := 10) (n := 512) (by omega) (by omega) (by omega) (by omega)
  have e0 : b * I e 2 = (w : Int) * b := by rw [hR.1, Int.mul_comm]
  have spH := sp_Relation_hasCell (J := J) (I := I) (a := b) (b := c) hG
  rw [bI1 (by rw [hR.1, hR.2.1]; exact ⟨hb, hc⟩)] at spH
  have spC := sp_Relation_cell (J := J) (I := I) (a := b) (b := c) hG (by rw [e0]; omega)
  rw [e0] at spC
  refine Sp.ofV (by decide) (Or.inl rfl) rfl ?_
  refine VW.aload_n (pc' := 1) d_F_cellAt_0 rfl rfl ?_
  refine VW.ifnull (pc' := 4) d_F_cellAt_1 rfl ?_
  refine VW.aload_n (pc' := 5) d_F_cellAt_4 rfl rfl ?_
  refine VW.iload_n (pc' := 6) d_F_cellAt_5 rfl rfl ?_
  refine VW.iload_n (pc' := 7) d_F_cellAt_6 rfl rfl ?_
  refine VW.cV (ci := 5) (T := T5) (N := 3) (pc' := 10) d_F_cellAt_7 rfl mv_Relation_hasCell lk_F_366 rfl (by first | exact hG.1 | exact hG.2.2) rfl rfl rfl (by decide) (by decide) (spH) rfl rfl ?_
  refine VW.if_eq (tgt := 17) (pc' := 13) d_F_cellAt_10 rfl rfl (fun c10 => ?_) (fun c10 => ?_)
  case refine_1 => exact absurd c10 (by decide)
  refine VW.iconst (pc' := 14) d_F_cellAt_13 rfl (by decide) ?_
  refine VW.goto (pc' := 18) d_F_cellAt_14 rfl ?_
  refine VW.callSX (pc' := 21) d_F_cellAt_18 rfl (sp_F_demandPlace1 (by decide)) rfl ms_F_demandPlace.1 ms_F_demandPlace.2.1 rfl ms_F_demandPlace.2.2 lk_F_97 rfl rfl rfl (by decide) (by decide) (fun _ _ _ _ _ hz => by cases hz.1) (fun r _ _ _ _ hz => ?_)
  obtain ⟨z1, z2, z3, z4, z5⟩ := hz
  cases z1
  replace z2 := z2.symm; replace z3 := z3.symm; replace z4 := z4.symm; replace z5 := z5.symm
  subst z2; subst z3; subst z4; subst z5
  refine VW.aload_n (pc' := 22) d_F_cellAt_21 rfl rfl ?_
  refine VW.iload_n (pc' := 23) d_F_cellAt_22 rfl rfl ?_
  refine VW.iload_n (pc' := 24) d_F_cellAt_23 rfl rfl ?_
  refine VW.cV (ci := 5) (T := T5) (N := 3) (pc' := 27) d_F_cellAt_24 rfl mv_Relation_cell lk_F_369 rfl (by first | exact hG.1 | exact hG.2.2) rfl rfl rfl (by decide) (by decide) (spC) rfl rfl ?_
  exact VW.iret d_F_cellAt_27 rfl rfl (by decide) (by decide) ex_rf
theorem cellAt_no {e k : Nat} {M : List (List Int)} (hG : ReW K P e k 5120) (hR : RelR I e k w M) (h : ¬ ((0 ≤ b ∧ b < M.length) ∧ 0 ≤ c ∧ c < w)) : Sp m_F_cellAt true rmE1 (ex K P J I (.inr eIOO)) K P J I [vR (some e), vI b, vI c] := by
  have spH := sp_Relation_hasCell (J := J) (I := I) (a := b) (b := c) hG
  rw [bI0 (by rw [hR.1, hR.2.1]; exact h)] at spH
  refine Sp.ofV (by decide) (Or.inl rfl) rfl ?_
  refine VW.aload_n (pc' := 1) d_F_cellAt_0 rfl rfl ?_
  refine VW.ifnull (pc' := 4) d_F_cellAt_1 rfl ?_
  refine VW.aload_n (pc' := 5) d_F_cellAt_4 rfl rfl ?_
  refine VW.iload_n (pc' := 6) d_F_cellAt_5 rfl rfl ?_
  refine VW.iload_n (pc' := 7) d_F_cellAt_6 rfl rfl ?_
  refine VW.cV (ci := 5) (T := T5) (N := 3) (pc' := 10) d_F_cellAt_7 rfl mv_Relation_hasCell lk_F_366 rfl (by first | exact hG.1 | exact hG.2.2) rfl rfl rfl (by decide) (by decide) (spH) rfl rfl ?_
  refine VW.if_eq (tgt := 17) (pc' := 13) d_F_cellAt_10 rfl rfl (fun c10 => ?_) (fun c10 => ?_)
  case refine_2 => exact absurd c10 (fun z => z rfl)
  refine VW.iconst (pc' := 18) d_F_cellAt_17 rfl (by decide) ?_
  refine VW.callSX (pc' := 21) d_F_cellAt_18 rfl (sp_F_demandPlace0) rfl ms_F_demandPlace.1 ms_F_demandPlace.2.1 rfl ms_F_demandPlace.2.2 lk_F_97 rfl rfl rfl (by decide) (by decide) (fun _ _ _ _ _ hz => ?_) (fun _ _ _ _ _ hz => by cases hz.1)
  obtain ⟨z1, z2, z3, z4, z5⟩ := hz
  cases z1
  replace z2 := z2.symm; replace z3 := z3.symm; replace z4 := z4.symm; replace z5 := z5.symm
  subst z2; subst z3; subst z4; subst z5
  exact Or.inl ⟨rfl, ex_rf⟩
  -- end
end
