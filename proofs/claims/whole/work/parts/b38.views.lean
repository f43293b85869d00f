/-! the views: what they hold, and how they are kept -/
section
variable {K : KT} {P : PT} {J I S I' S' : IT} {nq nv lq l3 l4 : Nat}
def vX (j : Nat) : Nat := 11000 + 32 * j
def nVr (o : Nat) : Prop := 11000 ≤ o ∧ o < 11400
def VnL (K : KT) (P : PT) (I S : IT) (nv l3 l4 : Nat) : Prop := (LsV K P I 1512 12300 l3 nv 4 ∧ LsV K P I 1544 12400 l4 nv 5) ∧ nv ≤ 6 ∧ ∀ j, j < nv → P (ldn 12300 l3) (j : Int) = some (qX (S 269 j).toNat) ∧ P (ldn 12400 l4) (j : Int) = some (vX j) ∧ ReW K P (vX j) (vX j + 1) 5120
/-- what a query gives for all to see, rising -/
def VwC (S : IT) (q : Int) (w : Nat) (M : List (List Int)) : Prop := ∃ n L, FnOK S 4 0 q n w L ∧ (∀ r ∈ L, r.length = w) ∧ M.Perm L ∧ Ris M
def VwR (I S : IT) (nq nv : Nat) : Prop := ∀ j : Nat, j < nv → ((0 ≤ S 269 j ∧ S 269 j < nq) ∧ mVw S (S 269 j)) ∧ ∃ w M, VwC S (S 269 j) w M ∧ RelR I (vX j) (vX j + 1) w M
/-- class and reference have the same schema and the same rows committed -/
def StV (I S : IT) : Prop := (RSch I S ∧ SSch S) ∧ (RowEq I 1161 S 4 ∧ RWc I 1161) ∧ RWm S 4
theorem AlW.of {P' : PT} {o d n : Nat} (h : AlW K P o d n) (e : P' o = P o) : AlW K P' o d n := ⟨h.1, by rw [e]; exact h.2.1, h.2.2⟩
theorem ReW.of {P' : PT} {e c n : Nat} (h : ReW K P e c n) (hp : P' e = P e) : ReW K P' e c n := ⟨h.1, by rw [hp]; exact h.2.1, h.2.2⟩
theorem RSch.fr (h : RSch I S) (e : ∀ o, 1032 ≤ o → o ≤ 1040 → I' o = I o) : RSch I' S := by
  unfold RSch at *
  rw [e 1032 (by decide) (by decide), e 1034 (by decide) (by decide), e 1035 (by decide) (by decide), e 1036 (by decide) (by decide), e 1037 (by decide) (by decide), e 1038 (by decide) (by decide), e 1040 (by decide) (by decide)]
  exact h
theorem RowEq.fr {a : Nat} {s : Int} (h : RowEq I a S s) (e : I' a = I a) : RowEq I' a S s := by
  unfold RowEq cIn at *
  rw [e]; exact h
theorem RWc.fr {a : Nat} (h : RWc I a) (e : I' a = I a) : RWc I' a := by
  unfold RWc at *
  rw [e]; exact h
theorem StV.fr (h : StV I S) (e : ∀ o, 1032 ≤ o → o ≤ 1161 → I' o = I o) : StV I' S := ⟨⟨h.1.1.fr (fun o a b => e o a (by omega)), h.1.2⟩, ⟨h.2.1.1.fr (e 1161 (by decide) (by decide)), h.2.1.2.fr (e 1161 (by decide) (by decide))⟩, h.2.2⟩
theorem QsR.frI (h : QsR I S nq) (hn : nq ≤ 20) (e : ∀ o, 10000 ≤ o → o < 10640 → I' o = I o) : QsR I' S nq := h.of (fun j hj => by
  have qZ : ∀ a, a < 32 → I' (qX j + a) = I (qX j + a) := fun a ha => e _ (by unfold qX; omega) (by unfold qX; omega)
  have q0 : I' (qX j) = I (qX j) := qZ 0 (by decide)
  exact ⟨by rw [q0], fun k hk => ⟨⟨by rw [qZ 3 (by decide)], by rw [qZ 5 (by decide)], by rw [qZ 6 (by decide)], by rw [qZ 7 (by decide)]⟩, fun j _ _ => by rw [qZ 4 (by decide)]⟩⟩) (fun _ _ _ _ _ => rfl) (fun _ _ _ => rfl) (Int.le_refl _)
/-- a query that may be a view doesn't fail -/
theorem view_ok {q s y : Int} {n : Nat} (h : mVw S q) (hn : S 262 q = n) : ∀ k : Nat, k ≤ n → ¬ evF S s y (12 * (q + 1)) k := by
  intro k
  induction k with
  | zero => intro _ zZ; exact zZ
  | succ k ihZ =>
    intro hk zZ
    rcases zZ with zZ | zZ
    · exact ihZ (by omega) zZ
    · have gZ := h k (by omega) (by omega)
      unfold mVwG mInner at gZ
      obtain ⟨_, _, _, _, _, wZ⟩ := zZ
      have := wZ.1
      omega
/-- a query is evaluated for all to see -/
theorem stored_eval {q : Nat} (hC : ClW K P) (hEv : EvW K P) (hs : StV I S) (hQs : QsR I S nq) (hq : q < nq) (hQ : QuW K P (qX q)) : ∃ n w L, FnOK S 4 0 (q : Int) n w L ∧ (∀ r ∈ L, r.length = w) ∧ Sp m_Evaluator_evaluate false (rmv 7 280) (EvP K P J I (evF S 4 0 (12 * ((q : Int) + 1)) n) w L) K P J I [vR (some 1224), vR (some (qX q)), vR (some 1160), vI 0] := by
  obtain ⟨n, w, cZ, ⟨a1Z, a2⟩, a3, a4, a5, a6⟩ := hQs q hq
  obtain ⟨L, b1, b2, b3⟩ := eval_cls (J := J) (y := 0) hC hEv hs.1.1 hs.1.2 hC.st (by unfold nEv; omega) hQ hs.2.1.1 hs.2.1.2 hs.2.2 a3 a5 a1Z a4
  exact ⟨n, w, L, b1, b2, b3⟩
theorem copy_R {e d c k w : Nat} {M : List (List Int)} (h : RelR I e d w M) (h1 : c ≠ e) (h2 : k ≠ c) (h3 : d ≠ c) : RelR (cpyI (up2 (up2 I c 1 (I e 1)) c 2 (I e 2)) d 0 k 0 (I e 1 * I e 2)) c k w M := by
  have i0Z : ∀ o, o ≠ c → up2 (up2 I c 1 (I e 1)) c 2 (I e 2) o = I o := fun o ho => funext (fun z => (up2_o _ _ _ _ ho).trans (up2_o _ _ _ _ ho))
  refine ⟨?_, ?_, ?_⟩
  · rw [cpyI_out (Or.inl h2.symm), up2_eq]; exact h.1
  · rw [cpyI_out (Or.inl h2.symm), up2_k _ _ _ _ (by decide), up2_eq]; exact h.2.1
  · have : seg (cpyI (up2 (up2 I c 1 (I e 1)) c 2 (I e 2)) d 0 k 0 (I e 1 * I e 2)) k 0 w M.length = seg I d 0 w M.length := seg_congr (fun z z0 z1 => by
      rw [Int.zero_add, cpyI_in z0 (by rw [h.1, h.2.1, Int.zero_add, Int.mul_comm]; exact z1), i0Z d h3]
      congr 1; omega)
    rw [this]; exact h.2.2
theorem copy_o {e d c k o : Nat} (h1 : o ≠ c) (h2 : o ≠ k) : cpyI (up2 (up2 I c 1 (I e 1)) c 2 (I e 2)) d 0 k 0 (I e 1 * I e 2) o = I o := funext (fun z => (cpyI_out (Or.inl h2)).trans ((up2_o _ _ _ _ h1).trans (up2_o _ _ _ _ h1)))
def RfP (K : KT) (P : PT) (J I S : IT) (nv : Nat) : PQ := fun r K' P' J' I' => r = .inl none ∧ K' = K ∧ J' = J ∧ EvW K P' ∧ (∀ o, o ≠ 1226 → P' o = P o) ∧ (∀ o, ¬ nEv o → ¬ nVr o → I' o = I o) ∧ ∀ j : Nat, j < nv → ∃ w M, VwC S (S 269 j) w M ∧ RelR I' (vX j) (vX j + 1) w M
theorem refresh_run (hC : ClW K P) (hEv : EvW K P) (hs : StV I S) (hQs : QsR I S nq) (hQ : QnL K P I nq lq) (hV : VnL K P I S nv l3 l4) (hv : ∀ j : Nat, j < nv → (0 ≤ S 269 j ∧ S 269 j < nq) ∧ mVw S (S 269 j)) : Sp m_F_refreshViews false ({ frames := 9, cells := 0, slots := 0, locals := 340 } : Room) (RfP K P J I S nv) K P J I [vR (some 1000)] := by
  have hq20 := hQ.2.1
  have hn6 := hV.2.1
  have l12 := hV.1.1.2.2.1
  have l12' := hV.1.2.2.2.1
  have dn : ∀ b l, b = 12300 ∨ b = 12400 → l < 12 → ldn b l ≠ 1226 := fun b l h1 h2 => by
    unfold ldn; split <;> omega
  refine Sp.ofV (by decide) (Or.inr rfl) rfl ?_
  have loopZ : ∀ (mZ iZ : Nat) (P1Z : PT) (I1 : IT), iZ + mZ = nv → EvW K P1Z → (∀ o, o ≠ 1226 → P1Z o = P o) → (∀ o, ¬ nEv o → ¬ nVr o → I1 o = I o) → (∀ j : Nat, j < iZ → ∃ wZ MZ, VwC S (S 269 j) wZ MZ ∧ RelR I1 (vX j) (vX j + 1) wZ MZ) → VW m_F_refreshViews false ({ frames := 9, cells := 0, slots := 0, locals := 340 } : Room) (RfP K P J I S nv) K P1Z J I1 0 0 2 [(0, vR (some 1000)), (1, vI (iZ : Int))] [] := by
    intro mZ
    induction mZ with
    | zero =>
      intro iZ P1Z I1 hiZ p1Z p2Z p3Z p4Z
      have ei : iZ = nv := by omega
      subst ei
      have C1Z := hC.evp p2Z
      have hz : I1 1512 2 = iZ := by rw [p3Z 1512 (by unfold nEv; omega) (by unfold nVr; omega)]; exact hV.1.1.2.2.2.1.1
      have finZ : RfP K P J I S iZ (.inl none) K P1Z J I1 := ⟨rfl, rfl, rfl, p1Z, p2Z, p3Z, p4Z⟩
      refine VW.iload_n (pc' := 3) d_F_refreshViews_2 rfl rfl ?_
      refine VW.aload_n (pc' := 4) d_F_refreshViews_3 rfl rfl ?_
      refine VW.gP (ci := 10) (T := T10) (N := 11) (k := 5) (k' := 5) (pc' := 7) d_F_refreshViews_4 rfl lk_F_46 in10 rfl rfl rfl rfl (by first | exact C1Z.k 0 rfl | exact C1Z.k 55 rfl | exact C1Z.k 56 rfl | exact C1Z.k 26 rfl | exact C1Z.k 9 rfl) (by first | exact C1Z.p 2 rfl | exact C1Z.p 5 rfl | exact C1Z.p 6 rfl | exact C1Z.p 1 rfl | exact C1Z.p 16 rfl | rfl) ?_
      refine VW.cV (ci := 12) (T := T12) (N := 3) (pc' := 10) d_F_refreshViews_7 rfl mv_java_util_ArrayList_size lk_F_147 rfl (by first | exact C1Z.k 0 rfl | exact C1Z.k 55 rfl | exact C1Z.k 56 rfl | exact C1Z.k 26 rfl | exact C1Z.k 9 rfl) rfl rfl rfl (Nat.le_refl _) (Nat.le_refl _) (sp_java_util_ArrayList_size (C1Z.k 55 rfl)) rfl rfl ?_
      rw [hz]
      refine VW.icmp_ge (tgt := 59) (pc' := 13) d_F_refreshViews_10 rfl rfl (fun c10 => ?_) (fun c10 => ?_)
      case refine_2 => exact absurd c10 (by omega)
      exact VW.vret d_F_refreshViews_59 rfl (Nat.zero_le _) (Nat.zero_le _) finZ
    | succ mZ ihZ =>
      intro iZ P1Z I1 hiZ p1Z p2Z p3Z p4Z
      have hi' : iZ < nv := by omega
      have C1Z := hC.evp p2Z
      have sI : ∀ o, ¬ nEv o → ¬ nVr o → I1 o = I o := p3Z
      have hz : I1 1512 2 = nv := by rw [p3Z 1512 (by unfold nEv; omega) (by unfold nVr; omega)]; exact hV.1.1.2.2.2.1.1
      have hz' : I1 1544 2 = nv := by rw [p3Z 1544 (by unfold nEv; omega) (by unfold nVr; omega)]; exact hV.1.2.2.2.2.1.1
      have cp3 := hV.1.1.2.2.2.1.2.1
      have cp4 := hV.1.2.2.2.2.1.2.1
      obtain ⟨v1Z, v2, v3⟩ := hV.2.2 iZ hi'
      obtain ⟨⟨b0, b1⟩, b2⟩ := hv iZ hi'
      have hW : ReW K P1Z (vX iZ) (vX iZ + 1) 5120 := v3.of (p2Z _ (by unfold vX; omega))
      have e3Z : P1Z (ldn 12300 l3) (iZ : Int) = some (qX (S 269 iZ).toNat) := by rw [p2Z _ (dn _ _ (Or.inl rfl) l12)]; exact v1Z
      have e4Z : P1Z (ldn 12400 l4) (iZ : Int) = some (vX iZ) := by rw [p2Z _ (dn _ _ (Or.inr rfl) l12')]; exact v2
      have A3 : AlW K P1Z 1512 (ldn 12300 l3) (lcp l3) := hV.1.1.1.of (p2Z _ (by decide))
      have A4 : AlW K P1Z 1544 (ldn 12400 l4) (lcp l4) := hV.1.2.1.of (p2Z _ (by decide))
      have qn : (((S 269 iZ).toNat : Nat) : Int) = S 269 iZ := by omega
      have hQ9 : QuW K P1Z (qX (S 269 iZ).toNat) := ((hQ.2.2 (S 269 iZ).toNat (by omega)).2).of (p2Z _ (by unfold qX; omega))
      have hs1 : StV I1 S := hs.fr (fun o a b => p3Z o (by unfold nEv; omega) (by unfold nVr; omega))
      have hQs1 : QsR I1 S nq := hQs.frI hq20 (fun o a b => p3Z o (by unfold nEv; omega) (by unfold nVr; omega))
      obtain ⟨nZ, wZ, LZ, f1Z, f2Z, spZ⟩ := stored_eval (J := J) C1Z p1Z hs1 hQs1 (q := (S 269 iZ).toNat) (by omega) hQ9
      rw [qn] at f1Z spZ
      have nfZ := view_ok (s := 4) (y := 0) b2 f1Z.1.1 nZ (Nat.le_refl _)
      have fb := f1Z.b
      refine VW.iload_n (pc' := 3) d_F_refreshViews_2 rfl rfl ?_
      refine VW.aload_n (pc' := 4) d_F_refreshViews_3 rfl rfl ?_
      refine VW.gP (ci := 10) (T := T10) (N := 11) (k := 5) (k' := 5) (pc' := 7) d_F_refreshViews_4 rfl lk_F_46 in10 rfl rfl rfl rfl (by first | exact C1Z.k 0 rfl | exact C1Z.k 55 rfl | exact C1Z.k 56 rfl | exact C1Z.k 26 rfl | exact C1Z.k 9 rfl | exact hQ9.k | exact hW.1 | exact g1.1) (by first | exact C1Z.p 2 rfl | exact C1Z.p 5 rfl | exact C1Z.p 6 rfl | exact C1Z.p 1 rfl | exact C1Z.p 16 rfl | rfl) ?_
      refine VW.cV (ci := 12) (T := T12) (N := 3) (pc' := 10) d_F_refreshViews_7 rfl mv_java_util_ArrayList_size lk_F_147 rfl (by first | exact C1Z.k 0 rfl | exact C1Z.k 55 rfl | exact C1Z.k 56 rfl | exact C1Z.k 26 rfl | exact C1Z.k 9 rfl | exact hQ9.k | exact hW.1 | exact g1.1) rfl rfl rfl (Nat.le_refl _) (Nat.le_refl _) (sp_java_util_ArrayList_size (C1Z.k 55 rfl)) rfl rfl ?_
      rw [hz]
      refine VW.icmp_ge (tgt := 59) (pc' := 13) d_F_refreshViews_10 rfl rfl (fun c10 => ?_) (fun c10 => ?_)
      case refine_1 => exact absurd c10 (by omega)
      refine VW.aload_n (pc' := 14) d_F_refreshViews_13 rfl rfl ?_
      refine VW.gP (ci := 10) (T := T10) (N := 11) (k := 6) (k' := 6) (pc' := 17) d_F_refreshViews_14 rfl lk_F_49 in10 rfl rfl rfl rfl (by first | exact C1Z.k 0 rfl | exact C1Z.k 55 rfl | exact C1Z.k 56 rfl | exact C1Z.k 26 rfl | exact C1Z.k 9 rfl | exact hQ9.k | exact hW.1 | exact g1.1) (by first | exact C1Z.p 2 rfl | exact C1Z.p 5 rfl | exact C1Z.p 6 rfl | exact C1Z.p 1 rfl | exact C1Z.p 16 rfl | rfl) ?_
      refine VW.iload_n (pc' := 18) d_F_refreshViews_17 rfl rfl ?_
      refine VW.cV (ci := 12) (T := T12) (N := 3) (pc' := 21) d_F_refreshViews_18 rfl mv_java_util_ArrayList_get lk_F_270 rfl (by first | exact C1Z.k 0 rfl | exact C1Z.k 55 rfl | exact C1Z.k 56 rfl | exact C1Z.k 26 rfl | exact C1Z.k 9 rfl | exact hQ9.k | exact hW.1 | exact g1.1) rfl rfl rfl (Nat.le_refl _) (Nat.le_refl _) (sp_java_util_ArrayList_get (i := (iZ : Int)) A4 (by rw [hz']; omega) (by rw [hz']; omega)) rfl rfl ?_
      rw [e4Z]
      refine VW.cast (ci := 5) (T := T5) (NN := 3) (pc' := 24) d_F_refreshViews_21 rfl lk_F_52 rfl (by first | exact C1Z.k 0 rfl | exact C1Z.k 55 rfl | exact C1Z.k 56 rfl | exact C1Z.k 26 rfl | exact C1Z.k 9 rfl | exact hQ9.k | exact hW.1 | exact g1.1) ?_
      refine VW.aload_n (pc' := 25) d_F_refreshViews_24 rfl rfl ?_
      refine VW.gP (ci := 10) (T := T10) (N := 11) (k := 2) (k' := 2) (pc' := 28) d_F_refreshViews_25 rfl lk_F_28 in10 rfl rfl rfl rfl (by first | exact C1Z.k 0 rfl | exact C1Z.k 55 rfl | exact C1Z.k 56 rfl | exact C1Z.k 26 rfl | exact C1Z.k 9 rfl | exact hQ9.k | exact hW.1 | exact g1.1) (by first | exact C1Z.p 2 rfl | exact C1Z.p 5 rfl | exact C1Z.p 6 rfl | exact C1Z.p 1 rfl | exact C1Z.p 16 rfl | rfl) ?_
      refine VW.aload_n (pc' := 29) d_F_refreshViews_28 rfl rfl ?_
      refine VW.gP (ci := 10) (T := T10) (N := 11) (k := 5) (k' := 5) (pc' := 32) d_F_refreshViews_29 rfl lk_F_46 in10 rfl rfl rfl rfl (by first | exact C1Z.k 0 rfl | exact C1Z.k 55 rfl | exact C1Z.k 56 rfl | exact C1Z.k 26 rfl | exact C1Z.k 9 rfl | exact hQ9.k | exact hW.1 | exact g1.1) (by first | exact C1Z.p 2 rfl | exact C1Z.p 5 rfl | exact C1Z.p 6 rfl | exact C1Z.p 1 rfl | exact C1Z.p 16 rfl | rfl) ?_
      refine VW.iload_n (pc' := 33) d_F_refreshViews_32 rfl rfl ?_
      refine VW.cV (ci := 12) (T := T12) (N := 3) (pc' := 36) d_F_refreshViews_33 rfl mv_java_util_ArrayList_get lk_F_270 rfl (by first | exact C1Z.k 0 rfl | exact C1Z.k 55 rfl | exact C1Z.k 56 rfl | exact C1Z.k 26 rfl | exact C1Z.k 9 rfl | exact hQ9.k | exact hW.1 | exact g1.1) rfl rfl rfl (Nat.le_refl _) (Nat.le_refl _) (sp_java_util_ArrayList_get (i := (iZ : Int)) A3 (by rw [hz]; omega) (by rw [hz]; omega)) rfl rfl ?_
      rw [e3Z]
      refine VW.cast (ci := 4) (T := T4) (NN := 13) (pc' := 39) d_F_refreshViews_36 rfl lk_F_63 rfl (by first | exact C1Z.k 0 rfl | exact C1Z.k 55 rfl | exact C1Z.k 56 rfl | exact C1Z.k 26 rfl | exact C1Z.k 9 rfl | exact hQ9.k | exact hW.1 | exact g1.1) ?_
      refine VW.aload_n (pc' := 40) d_F_refreshViews_39 rfl rfl ?_
      refine VW.gP (ci := 10) (T := T10) (N := 11) (k := 1) (k' := 1) (pc' := 43) d_F_refreshViews_40 rfl lk_F_21 in10 rfl rfl rfl rfl (by first | exact C1Z.k 0 rfl | exact C1Z.k 55 rfl | exact C1Z.k 56 rfl | exact C1Z.k 26 rfl | exact C1Z.k 9 rfl | exact hQ9.k | exact hW.1 | exact g1.1) (by first | exact C1Z.p 2 rfl | exact C1Z.p 5 rfl | exact C1Z.p 6 rfl | exact C1Z.p 1 rfl | exact C1Z.p 16 rfl | rfl) ?_
      refine VW.gP (ci := 0) (T := T0) (N := 8) (k := 1) (k' := 1) (pc' := 46) d_F_refreshViews_43 rfl lk_F_110 in0 rfl rfl rfl rfl (by first | exact C1Z.k 0 rfl | exact C1Z.k 55 rfl | exact C1Z.k 56 rfl | exact C1Z.k 26 rfl | exact C1Z.k 9 rfl | exact hQ9.k | exact hW.1 | exact g1.1) (by first | exact C1Z.p 2 rfl | exact C1Z.p 5 rfl | exact C1Z.p 6 rfl | exact C1Z.p 1 rfl | exact C1Z.p 16 rfl | rfl) ?_
      refine VW.iconst (pc' := 47) d_F_refreshViews_46 rfl (by decide) ?_
      refine VW.cVq (ci := 1) (T := T1) (N := 7) (pc' := 50) d_F_refreshViews_47 rfl mv_Evaluator_evaluate lk_F_318 rfl (by first | exact C1Z.k 0 rfl | exact C1Z.k 55 rfl | exact C1Z.k 56 rfl | exact C1Z.k 26 rfl | exact C1Z.k 9 rfl | exact hQ9.k | exact hW.1 | exact g1.1) rfl rfl rfl (Nat.le_refl _) (Nat.le_refl _) (spZ) rfl rfl (fun r9 K9 P9 J9 I9 hz9 => ?_)
      obtain ⟨y1, y2, y3, y4, y5, y6⟩ := hz9
      replace y1 := y1.symm; replace y2 := y2.symm
      subst y1; subst y2
      rcases y6 with ⟨fZ, -⟩ | ⟨-, eZ, MZ, g0, ⟨g1, g2, g3Z⟩, g4, g5Z, g6⟩
      · exact absurd fZ nfZ
      cases g0
      have C2Z := C1Z.evp y5
      have mlZ : MZ.length = LZ.length := g5Z.length_eq
      have hW2 : ReW K P9 (vX iZ) (vX iZ + 1) 5120 := hW.of (y5 _ (by unfold vX; omega))
      have ee := g1.ev
      have ee2 := g2.ev
      unfold nEv at ee ee2
      have mb : 0 ≤ I9 eZ 1 * I9 eZ 2 ∧ I9 eZ 1 * I9 eZ 2 ≤ 5120 := by
        rw [g4.1, g4.2.1]
        exact ⟨mulNN (by omega) (by omega), mulUp (W := 512) (n := 10) (by omega) (by omega) (by omega) (by omega)⟩
      have spY := sp_Relation_copyFrom (J := J) (I := I9) hW2 g3Z (by unfold vX; omega) ⟨mb.1, by omega, by omega, by decide⟩
      have nx := ihZ (iZ + 1) P9 (cpyI (up2 (up2 I9 (vX iZ) 1 (I9 eZ 1)) (vX iZ) 2 (I9 eZ 2)) (eZ + 1) 0 (vX iZ + 1) 0 (I9 eZ 1 * I9 eZ 2)) (by omega) y3 (fun o ho => (y5 o ho).trans (p2Z o ho)) (fun o a b => by
        rw [copy_o (fun z => b (by rw [z]; unfold nVr vX; omega)) (fun z => b (by rw [z]; unfold nVr vX; omega)), y4 o a]; exact p3Z o a b) (fun j hj => by
        by_cases ej : j = iZ
        · subst ej
          exact ⟨wZ, MZ, ⟨nZ, LZ, f1Z, f2Z, g5Z, g6⟩, copy_R g4 (by unfold vX; omega) (by omega) (by unfold vX; omega)⟩
        · obtain ⟨w', M', h1, h2⟩ := p4Z j (by omega)
          exact ⟨w', M', h1, h2.fr (by rw [copy_o (by unfold vX; omega) (by unfold vX; omega)]; exact y4 _ (by unfold nEv vX; omega)) (by rw [copy_o (by unfold vX; omega) (by unfold vX; omega)]; exact y4 _ (by unfold nEv vX; omega))⟩)
      rw [show ((iZ + 1 : Nat) : Int) = (iZ : Int) + 1 by omega] at nx
      clear ihZ
      refine VW.cV (ci := 5) (T := T5) (N := 3) (pc' := 53) d_F_refreshViews_50 rfl mv_Relation_copyFrom lk_F_278 rfl (by first | exact C1Z.k 0 rfl | exact C1Z.k 55 rfl | exact C1Z.k 56 rfl | exact C1Z.k 26 rfl | exact C1Z.k 9 rfl | exact hQ9.k | exact hW.1 | exact g1.1) rfl rfl rfl (Nat.le_refl _) (Nat.le_refl _) (spY) rfl rfl ?_
      refine VW.iinc (pc' := 56) d_F_refreshViews_53 rfl rfl rfl (by omega) ?_
      refine VW.goto (pc' := 2) d_F_refreshViews_56 rfl ?_
      refine VW.pick [0, 1] ?_
      exact nx
  have l9 := loopZ nv 0 P I (by omega) hEv (fun _ _ => rfl) (fun _ _ _ => rfl) (fun j hj => by omega)
  clear loopZ
  refine VW.iconst (pc' := 1) d_F_refreshViews_0 rfl (by decide) ?_
  refine VW.istore_n (pc' := 2) d_F_refreshViews_1 rfl rfl ?_
  refine VW.pick [0, 1] ?_
  exact l9
end
