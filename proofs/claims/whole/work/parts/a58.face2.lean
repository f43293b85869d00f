section
variable {K : KT} {P : PT} {J I : IT}
theorem sp_F_scrap {q : Nat} (hC : ClW K P) (hp : P 1000 10 = some q) (hQ : QuW K P q) : Sp m_F_scrap false (rmv 1 20) (ex K P J (up2 (up2 (up2 I q 0 0) q 1 0) q 7 0) (.inl (some (vI (I q 7))))) K P J I [vR (some 1000)] := by
  refine Sp.ofV (by decide) (Or.inr rfl) rfl ?_
  refine VW.aload_n (pc' := 1) d_F_scrap_0 rfl rfl ?_
  refine VW.gP (ci := 10) (T := T10) (N := 11) (k := 10) (k' := 10) (pc' := 4) d_F_scrap_1 rfl lk_F_66 in10 rfl rfl rfl rfl (by first | exact hC.k 0 rfl | exact hQ.k) (by first | exact hp | rfl) ?_
  refine VW.gI (ci := 4) (T := T4) (N := 13) (k := 7) (k' := 7) (pc' := 7) d_F_scrap_4 rfl lk_F_228 in4 rfl rfl rfl rfl (by first | exact hC.k 0 rfl | exact hQ.k) (by first | exact hp | rfl) ?_
  refine VW.istore_n (pc' := 8) d_F_scrap_7 rfl rfl ?_
  refine VW.aload_n (pc' := 9) d_F_scrap_8 rfl rfl ?_
  refine VW.gP (ci := 10) (T := T10) (N := 11) (k := 10) (k' := 10) (pc' := 12) d_F_scrap_9 rfl lk_F_66 in10 rfl rfl rfl rfl (by first | exact hC.k 0 rfl | exact hQ.k) (by first | exact hp | rfl) ?_
  refine VW.cV (ci := 4) (T := T4) (N := 13) (pc' := 15) d_F_scrap_12 rfl mv_Query_clear lk_F_260 rfl (by first | exact hC.k 0 rfl | exact hQ.k) rfl rfl rfl (Nat.le_refl _) (Nat.le_refl _) (sp_Query_clear hQ) rfl rfl ?_
  refine VW.iload_n (pc' := 16) d_F_scrap_15 rfl rfl ?_
  exact VW.iret d_F_scrap_16 rfl rfl (Nat.zero_le _) (Nat.zero_le _) ex_rf
theorem checkpoint_ex {g n : Nat} (hC : ClW K P) (hV : LgV K P g) (hL : LgN I g n) (hn : n < 16384) : ∃ (g' c q : Nat) (K' : KT) (P' : PT) (I1 : IT), (LgV K' P' g' ∧ LgN I1 g' (n + 1) ∧ ClW K' P') ∧ Fr nLg K P I K' P' I1 ∧ (c + g = g' ∧ q + lgP g = lgP g') ∧ LgX I I1 g g' n [rcN 4 (-1) (-2147483648) (-2147483648)] ∧
      Sp m_F_checkpoint false ({ frames := 4, cells := c, slots := q, locals := 160 } : Room) (ex K' P' J (up2 I1 1192 1 ((n + 1 : Nat) : Int)) (.inl (some (vI ((n + 1 : Nat) : Int))))) K P J I [vR (some 1000)] := by
  obtain ⟨g', c, q, K', P', I1, ⟨q1, q1'⟩, q2, q3, q4, sp⟩ := log_add (J := J) (k := 4) (i := -1) (t := -2147483648) (y := -2147483648) hV hL hn
  have C1 := hC.lg hV q1 q2
  refine ⟨g', c, q, K', P', I1, ⟨q1, q1', C1⟩, q2, q3, LgX.one q4, ?_⟩
  have e0 : I1 1192 0 = ((n + 1 : Nat) : Int) := q1'.1
  have e1 : up2 I1 1192 1 (I1 1192 0) 1192 0 = ((n + 1 : Nat) : Int) := (up2_k _ _ _ _ (by decide)).trans e0
  have e2 : up2 I1 1192 1 (I1 1192 0) = up2 I1 1192 1 ((n + 1 : Nat) : Int) := by rw [e0]
  refine Sp.ofV (by decide) (Or.inr rfl) rfl ?_
  refine VW.aload_n (pc' := 1) d_F_checkpoint_0 rfl rfl ?_
  refine VW.gP (ci := 10) (T := T10) (N := 11) (k := 1) (k' := 1) (pc' := 4) d_F_checkpoint_1 rfl lk_F_21 in10 rfl rfl rfl rfl (by first | exact hC.k 0 rfl | exact hC.k 9 rfl | exact hC.k 23 rfl | exact C1.k 0 rfl | exact C1.k 9 rfl | exact C1.k 23 rfl) (by first | exact hC.p 1 rfl | exact hC.p 18 rfl | exact e1 | exact C1.p 1 rfl | exact C1.p 18 rfl | rfl) ?_
  refine VW.gP (ci := 0) (T := T0) (N := 8) (k := 3) (k' := 3) (pc' := 7) d_F_checkpoint_4 rfl lk_F_219 in0 rfl rfl rfl rfl (by first | exact hC.k 0 rfl | exact hC.k 9 rfl | exact hC.k 23 rfl | exact C1.k 0 rfl | exact C1.k 9 rfl | exact C1.k 23 rfl) (by first | exact hC.p 1 rfl | exact hC.p 18 rfl | exact e1 | exact C1.p 1 rfl | exact C1.p 18 rfl | rfl) ?_
  refine VW.iconst (pc' := 8) d_F_checkpoint_7 rfl (by decide) ?_
  refine VW.iconst (pc' := 9) d_F_checkpoint_8 rfl (by decide) ?_
  refine VW.ldc (pc' := 11) (z := -2147483648) d_F_checkpoint_9 rfl lk_F_153 (by decide) (by decide) ?_
  refine VW.ldc (pc' := 13) (z := -2147483648) d_F_checkpoint_11 rfl lk_F_153 (by decide) (by decide) ?_
  refine VW.cV (ci := 2) (T := T2) (N := 5) (pc' := 16) d_F_checkpoint_13 rfl mv_Log_add lk_F_325 rfl (by first | exact hC.k 0 rfl | exact hC.k 9 rfl | exact hC.k 23 rfl | exact C1.k 0 rfl | exact C1.k 9 rfl | exact C1.k 23 rfl) rfl rfl rfl (by exact (show 0 + c ≤ c by omega)) (by exact (show 0 + q ≤ q by omega)) (sp) rfl rfl ?_
  refine VW.aload_n (pc' := 17) d_F_checkpoint_16 rfl rfl ?_
  refine VW.gP (ci := 10) (T := T10) (N := 11) (k := 1) (k' := 1) (pc' := 20) d_F_checkpoint_17 rfl lk_F_21 in10 rfl rfl rfl rfl (by first | exact hC.k 0 rfl | exact hC.k 9 rfl | exact hC.k 23 rfl | exact C1.k 0 rfl | exact C1.k 9 rfl | exact C1.k 23 rfl) (by first | exact hC.p 1 rfl | exact hC.p 18 rfl | exact e1 | exact C1.p 1 rfl | exact C1.p 18 rfl | rfl) ?_
  refine VW.gP (ci := 0) (T := T0) (N := 8) (k := 3) (k' := 3) (pc' := 23) d_F_checkpoint_20 rfl lk_F_219 in0 rfl rfl rfl rfl (by first | exact hC.k 0 rfl | exact hC.k 9 rfl | exact hC.k 23 rfl | exact C1.k 0 rfl | exact C1.k 9 rfl | exact C1.k 23 rfl) (by first | exact hC.p 1 rfl | exact hC.p 18 rfl | exact e1 | exact C1.p 1 rfl | exact C1.p 18 rfl | rfl) ?_
  refine VW.cV (ci := 2) (T := T2) (N := 5) (pc' := 26) d_F_checkpoint_23 rfl mv_Log_flush lk_F_327 rfl (by first | exact hC.k 0 rfl | exact hC.k 9 rfl | exact hC.k 23 rfl | exact C1.k 0 rfl | exact C1.k 9 rfl | exact C1.k 23 rfl) rfl rfl rfl (by exact (show 0 + c ≤ c by omega)) (by exact (show 0 + q ≤ q by omega)) (sp_Log_flush q1.1) rfl rfl ?_
  refine VW.aload_n (pc' := 27) d_F_checkpoint_26 rfl rfl ?_
  refine VW.gP (ci := 10) (T := T10) (N := 11) (k := 1) (k' := 1) (pc' := 30) d_F_checkpoint_27 rfl lk_F_21 in10 rfl rfl rfl rfl (by first | exact hC.k 0 rfl | exact hC.k 9 rfl | exact hC.k 23 rfl | exact C1.k 0 rfl | exact C1.k 9 rfl | exact C1.k 23 rfl) (by first | exact hC.p 1 rfl | exact hC.p 18 rfl | exact e1 | exact C1.p 1 rfl | exact C1.p 18 rfl | rfl) ?_
  refine VW.gP (ci := 0) (T := T0) (N := 8) (k := 3) (k' := 3) (pc' := 33) d_F_checkpoint_30 rfl lk_F_219 in0 rfl rfl rfl rfl (by first | exact hC.k 0 rfl | exact hC.k 9 rfl | exact hC.k 23 rfl | exact C1.k 0 rfl | exact C1.k 9 rfl | exact C1.k 23 rfl) (by first | exact hC.p 1 rfl | exact hC.p 18 rfl | exact e1 | exact C1.p 1 rfl | exact C1.p 18 rfl | rfl) ?_
  refine VW.gI (ci := 2) (T := T2) (N := 5) (k := 0) (k' := 0) (pc' := 36) d_F_checkpoint_33 rfl lk_F_330 in2 rfl rfl rfl rfl (by first | exact hC.k 0 rfl | exact hC.k 9 rfl | exact hC.k 23 rfl | exact C1.k 0 rfl | exact C1.k 9 rfl | exact C1.k 23 rfl) (by first | exact hC.p 1 rfl | exact hC.p 18 rfl | exact e1 | exact C1.p 1 rfl | exact C1.p 18 rfl | rfl) ?_
  exact VW.iret d_F_checkpoint_36 rfl rfl (by exact (show 0 + c ≤ c by omega)) (by exact (show 0 + q ≤ q by omega)) (by rw [e2]; exact ex_rf)
end
