section
variable {K : KT} {P : PT} {J I : IT}
/-- behind a rollback: u records are undone already -/
def rbI (I1 : IT) (i m : Nat) : IT := fiI I1 (tX i) (tX i + 80 + m) 3 (I1 (tX i) 17).toNat
theorem rollback_ex {i l m g n u : Nat} (hi : i < 60) (hC : ClW K P) (hT : TxV K P i l m) (hN : TxN I i l m) (h0 : I (tX i) 0 = (i : Int)) (hV : LgV K P g) (hL : LgN I g n) (hR : LgR I g n) (hu : (u : Int) = cntI (fun k => lgF I g k 0 = 2 ∧ lgF I g k 1 = (i : Int)) n) (hl : n + (undL I g i n u).length < 16384) :
    ∃ (g' c q : Nat) (K' : KT) (P' : PT) (I1 : IT), (LgV K' P' g' ∧ LgN I1 g' (n + (undL I g i n u).length + 1) ∧ ClW K' P' ∧ TxV K' P' i l m ∧ TxN I1 i l m) ∧ Fr nLg K P I K' P' I1 ∧ (c + g = g' ∧ q + lgP g = lgP g') ∧ LgX I I1 g g' n (undL I g i n u ++ [rcN 3 i (-2147483648) (-2147483648)]) ∧
      Sp m_Engine_rollBack false ({ frames := 5, cells := c, slots := q, locals := 200 } : Room) (ex K' P' J (rbI I1 i m) (.inl (some (vI ((undL I g i n u).length : Int))))) K P J I [vR (some 1064), vR (some (tX i))] := by
  obtain ⟨g', c, q, K', P', I1, ⟨q1, q1'⟩, q2, q3, q4, sp⟩ := undo_ex (J := J) (i := (i : Int)) hV hL hR hu hl
  have C1 := hC.lg hV q1 q2
  have fl : ∀ o, nTx i o → K' o = K o ∧ P' o = P o ∧ I1 o = I o := fun o ho => q2 o (lg_tx hi ho)
  have T1 := hT.fl (fun o ho => ⟨(fl o ho).1, (fl o ho).2.1⟩)
  have N1 : TxN I1 i l m := by
    have l15 := hT.2.2.2.2
    unfold TxN at *
    rw [(fl (tX i) (by unfold nTx; omega)).2.2, (fl (tX i + 40 + l) (by unfold nTx; omega)).2.2, (fl (tX i + 80 + m) (by unfold nTx; omega)).2.2]
    exact hN
  refine ⟨g', c, q, K', P', I1, ⟨q1, q1', C1, T1, N1⟩, q2, q3, q4, ?_⟩
  have hd : fiI I1 (tX i) (tX i + 80 + m) 3 (I1 (tX i) 17).toNat = rbI I1 i m := rfl
  refine Sp.ofV (by decide) (Or.inr rfl) rfl ?_
  refine VW.aload_n (pc' := 1) d_Engine_rollBack_0 rfl rfl ?_
  refine VW.gP (ci := 0) (T := T0) (N := 8) (k := 3) (k' := 3) (pc' := 4) d_Engine_rollBack_1 rfl lk_Engine_28 in0 rfl rfl rfl rfl (by first | exact hC.k 9 rfl | exact hT.k | exact hC.k 23 rfl | exact C1.k 9 rfl) (by first | exact hC.p 18 rfl | exact h0 | rfl) ?_
  refine VW.aload_n (pc' := 5) d_Engine_rollBack_4 rfl rfl ?_
  refine VW.gI (ci := 8) (T := T8) (N := 19) (k := 0) (k' := 0) (pc' := 8) d_Engine_rollBack_5 rfl lk_Engine_92 in8 rfl rfl rfl rfl (by first | exact hC.k 9 rfl | exact hT.k | exact hC.k 23 rfl | exact C1.k 9 rfl) (by first | exact hC.p 18 rfl | exact h0 | rfl) ?_
  refine VW.cV (ci := 2) (T := T2) (N := 5) (pc' := 11) d_Engine_rollBack_8 rfl mv_Log_undoWrites lk_Engine_172 rfl (by first | exact hC.k 9 rfl | exact hT.k | exact hC.k 23 rfl | exact C1.k 9 rfl) rfl rfl rfl (by exact (show 0 + c ≤ c by omega)) (by exact (show 0 + q ≤ q by omega)) (sp) rfl rfl ?_
  refine VW.istore_n (pc' := 12) d_Engine_rollBack_11 rfl rfl ?_
  refine VW.aload_n (pc' := 13) d_Engine_rollBack_12 rfl rfl ?_
  refine VW.aload_n (pc' := 14) d_Engine_rollBack_13 rfl rfl ?_
  refine VW.iconst (pc' := 15) d_Engine_rollBack_14 rfl (by decide) ?_
  refine VW.cV (ci := 0) (T := T0) (N := 8) (pc' := 18) d_Engine_rollBack_15 rfl mv_Engine_finish lk_Engine_175 rfl (by first | exact hC.k 9 rfl | exact hT.k | exact hC.k 23 rfl | exact C1.k 9 rfl) rfl rfl rfl (by exact (show 0 + c ≤ c by omega)) (by exact (show 0 + q ≤ q by omega)) (sp_Engine_finish C1 T1 N1) rfl rfl ?_
  refine VW.iload_n (pc' := 19) d_Engine_rollBack_18 rfl rfl ?_
  exact VW.iret d_Engine_rollBack_19 rfl rfl (by exact (show 0 + c ≤ c by omega)) (by exact (show 0 + q ≤ q by omega)) ex_rf
end
