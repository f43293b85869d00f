/-! RowForge.query -/
section
variable {K : KT} {P : PT} {J I : IT} {nq lqq : Nat}
theorem cn_hi {o : Nat} (h : cnK o = true) (h2 : 2000 ≤ o) : False := by
  unfold cnK at h
  obtain ⟨xZ, hx, eZ⟩ := List.any_eq_true.mp h
  have eZ := Nat.eq_of_beq_eq_true eZ
  have allZ : KCL.all (fun xZ => decide (xZ.1 < 2000)) = true := by decide
  have := of_decide_eq_true (List.all_eq_true.mp allZ xZ hx)
  omega
theorem cp_hi {o : Nat} (h : cnP o = true) (h2 : 2000 ≤ o) : False := by
  unfold cnP at h
  obtain ⟨xZ, hx, eZ⟩ := List.any_eq_true.mp h
  have eZ := Nat.eq_of_beq_eq_true eZ
  have allZ : PCL.all (fun xZ => decide (xZ.1 < 2000)) = true := by decide
  have := of_decide_eq_true (List.all_eq_true.mp allZ xZ hx)
  omega
/-- names of queries not made yet -/
def FreeQ (K : KT) (P : PT) (I : IT) (m : Nat) : Prop := ∀ j, m ≤ j → j ≤ 20 → ∀ a, a < 32 → K (qX j + a) = none ∧ ∀ k, I (qX j + a) k = 0
theorem query_no1 {q : Nat} (hC : ClW K P) (hp : P 1000 10 = some q) (hQ : QuW K P q) (hz : I 1480 2 = (nq : Int)) (h : ¬ (I q 7 = 1 ∧ nq < 20)) : Sp m_F_query true ({ frames := 12, cells := 1, slots := 6, locals := 400 } : Room) (ex K P J I (.inr eISE)) K P J I [vR (some 1000)] := by
  have spZ : Sp m_java_util_ArrayList_size false (rmv 0 0) (ex K P J I (.inl (some (vI (nq : Int))))) K P J I [vR (some 1480)] := by
    have := sp_java_util_ArrayList_size (K := K) (J := J) (I := I) (P := P) (o := 1480) (hC.k 54 rfl)
    rw [hz] at this
    exact this
  refine Sp.ofV (by decide) (Or.inl rfl) rfl ?_
  refine VW.aload_n (pc' := 1) d_F_query_0 rfl rfl ?_
  refine VW.gP (ci := 10) (T := T10) (N := 11) (k := 10) (k' := 10) (pc' := 4) d_F_query_1 rfl lk_F_66 in10 rfl rfl rfl rfl (by first | exact hC.k 0 rfl | exact hC.k 54 rfl | exact hQ.k) (by first | exact hp | exact hC.p 4 rfl | rfl) ?_
  refine VW.gI (ci := 4) (T := T4) (N := 13) (k := 7) (k' := 7) (pc' := 7) d_F_query_4 rfl lk_F_228 in4 rfl rfl rfl rfl (by first | exact hC.k 0 rfl | exact hC.k 54 rfl | exact hQ.k) (by first | exact hp | exact hC.p 4 rfl | rfl) ?_
  refine VW.iconst (pc' := 8) d_F_query_7 rfl (by decide) ?_
  refine VW.icmp_ne (tgt := 27) (pc' := 11) d_F_query_8 rfl rfl (fun c8 => ?_) (fun c8 => ?_)
  · refine VW.iconst (pc' := 28) d_F_query_27 rfl (by decide) ?_
    refine VW.callSX (pc' := 31) d_F_query_28 rfl (sp_F_demandState0) rfl ms_F_demandState.1 ms_F_demandState.2.1 rfl ms_F_demandState.2.2 lk_F_82 rfl rfl rfl (by decide) (by decide) (fun _ _ _ _ _ hz => ?_) (fun _ _ _ _ _ hz => by cases hz.1)
    obtain ⟨z1, z2, z3, z4, z5⟩ := hz
    cases z1
    replace z2 := z2.symm; replace z3 := z3.symm; replace z4 := z4.symm; replace z5 := z5.symm
    subst z2; subst z3; subst z4; subst z5
    exact Or.inl ⟨rfl, ex_rf⟩
    -- end
  · refine VW.aload_n (pc' := 12) d_F_query_11 rfl rfl ?_
    refine VW.gP (ci := 10) (T := T10) (N := 11) (k := 4) (k' := 4) (pc' := 15) d_F_query_12 rfl lk_F_42 in10 rfl rfl rfl rfl (by first | exact hC.k 0 rfl | exact hC.k 54 rfl | exact hQ.k) (by first | exact hp | exact hC.p 4 rfl | rfl) ?_
    refine VW.cV (ci := 12) (T := T12) (N := 3) (pc' := 18) d_F_query_15 rfl mv_java_util_ArrayList_size lk_F_147 rfl (by first | exact hC.k 0 rfl | exact hC.k 54 rfl | exact hQ.k) rfl rfl rfl (by decide) (by decide) (spZ) rfl rfl ?_
    refine VW.bipush (pc' := 20) d_F_query_18 rfl (by decide) ?_
    refine VW.icmp_ge (tgt := 27) (pc' := 23) d_F_query_20 rfl rfl (fun c20 => ?_) (fun c20 => ?_)
    · refine VW.iconst (pc' := 28) d_F_query_27 rfl (by decide) ?_
      refine VW.callSX (pc' := 31) d_F_query_28 rfl (sp_F_demandState0) rfl ms_F_demandState.1 ms_F_demandState.2.1 rfl ms_F_demandState.2.2 lk_F_82 rfl rfl rfl (by decide) (by decide) (fun _ _ _ _ _ hz => ?_) (fun _ _ _ _ _ hz => by cases hz.1)
      obtain ⟨z1, z2, z3, z4, z5⟩ := hz
      cases z1
      replace z2 := z2.symm; replace z3 := z3.symm; replace z4 := z4.symm; replace z5 := z5.symm
      subst z2; subst z3; subst z4; subst z5
      exact Or.inl ⟨rfl, ex_rf⟩
      -- end
    · refine VW.iconst (pc' := 24) d_F_query_23 rfl (by decide) ?_
      refine VW.nrm ?_
      exact absurd ⟨by omega, by omega⟩ h
theorem query_ex (hC : ClW K P) (hp : P 1000 10 = some (qX nq)) (hQ : QuW K P (qX nq)) (hL : QnL K P I nq lqq) (hK : FreeQ K P I (nq + 1)) (hF : FreeL P 12200 lqq) (hn : nq < 20) (h7 : I (qX nq) 7 = 1) :
    ∃ (l c z : Nat) (K' : KT) (P' : PT) (I' : IT), QnL K' P' I' (nq + 1) l ∧ ClW K' P' ∧ P' 1000 10 = some (qX (nq + 1)) ∧ QuW K' P' (qX (nq + 1)) ∧ FreeQ K' P' I' (nq + 2) ∧ FreeL P' 12200 l ∧ (c + lqq = 8 + l ∧ z + pl lqq = 118 + pl l) ∧ (∀ o, o ≠ 1480 → I' o = I o) ∧ (∀ o, o ≠ 1000 → o ≠ 1480 → ¬ (12200 < o ∧ o < 12220) → ¬ (qX (nq + 1) ≤ o ∧ o < qX (nq + 1) + 32) → K' o = K o ∧ P' o = P o) ∧ (K' 1000 = K 1000 ∧ ∀ k, k ≠ 10 → P' 1000 k = P 1000 k) ∧
      Sp m_F_query true ({ frames := 12, cells := c, slots := z, locals := 400 } : Room) (ex K' P' J I' (.inl (some (vI (((nq + 1 : Nat) : Int) - 1))))) K P J I [vR (some 1000)] := by
  have q0 : qX nq + 32 = qX (nq + 1) := by unfold qX; omega
  have qb : 10000 ≤ qX nq ∧ qX (nq + 1) + 32 ≤ 10700 := by unfold qX; omega
  have hz := hL.1.2.2.2.1.1
  have h12 := hL.1.2.2.1
  have ld := ld_in (b := 12200) h12
  obtain ⟨l, cc, zz, K1, P1Z, I1, l1, l2, l3, l4, l5, l6, l7, l8, l9, spA⟩ := list_add (J := J) (e := qX nq) hL.1 hQ.k (show classes[4]? = some ("RowForge$Query", T4, 13) from rfl) (by decide) (by omega) (by omega) (by omega) (by omega) (fun j i j0 j1 => hF j i j0 j1)
  have outZ : ∀ o, o ≠ 1480 → ¬ (12200 < o ∧ o < 12220) → K1 o = K o ∧ P1Z o = P o ∧ I1 o = I o := fun o h1 h2 => l2 o (fun w => w.elim h1 (fun w => h2 (by omega)))
  have f0Z : ∀ a, a < 32 → K1 (qX (nq + 1) + a) = none := fun a ha => (outZ _ (by omega) (by omega)).1.trans (hK (nq + 1) (Nat.le_refl _) (by omega) a ha).1
  have knZ : K1 (qX (nq + 1)) = none := f0Z 0 (by decide)
  let xZ := qX (nq + 1)
  let K2 := upK K1 xZ (4, 0)
  let K3 := upK (upK (upK (upK (upK (upK (upK K2 (xZ + 3) (100, 12)) (xZ + 4) (100, 48)) (xZ + 5) (100, 12)) (xZ + 6) (100, 12)) (xZ + 7) (100, 12)) (xZ + 9) (100, 6)) (xZ + 13) (100, 3)
  let P2Z := up2 (up2 (up2 (up2 (up2 (up2 (up2 P1Z xZ 2 (some (xZ + 3))) xZ 3 (some (xZ + 4))) xZ 4 (some (xZ + 5))) xZ 5 (some (xZ + 6))) xZ 6 (some (xZ + 7))) xZ 8 (some (xZ + 9))) xZ 12 (some (xZ + 13))
  let P3 := up2 P2Z 1000 10 (some xZ)
  have hx : xZ = qX (nq + 1) := rfl
  have k3o : ∀ o, ¬ (xZ ≤ o ∧ o < xZ + 32) → K3 o = K1 o := fun o h => (upK_o _ _ (by omega)).trans ((upK_o _ _ (by omega)).trans ((upK_o _ _ (by omega)).trans ((upK_o _ _ (by omega)).trans ((upK_o _ _ (by omega)).trans ((upK_o _ _ (by omega)).trans ((upK_o _ _ (by omega)).trans (upK_o _ _ (by omega))))))))
  have p2o : ∀ o, o ≠ xZ → P2Z o = P1Z o := fun o h => funext (fun k => (up2_o _ _ _ _ h).trans ((up2_o _ _ _ _ h).trans ((up2_o _ _ _ _ h).trans ((up2_o _ _ _ _ h).trans ((up2_o _ _ _ _ h).trans ((up2_o _ _ _ _ h).trans (up2_o _ _ _ _ h)))))))
  have p3o : ∀ o, o ≠ 1000 → P3 o = P2Z o := fun o h => funext (fun k => up2_o _ _ _ _ h)
  have p3x : ∀ k, P3 xZ k = P2Z xZ k := fun k => up2_o _ _ _ _ (by omega)
  have C1Z : ClW K1 P1Z := hC.fr (fun o ho => by
    by_cases eZ : o = 1480
    · rw [eZ]; exact l1.1.1.trans (hC.k 54 rfl).symm
    · exact (outZ o eZ (fun eZ => cn_hi ho (by omega))).1) (fun o ho => (outZ o (fun eZ => by rw [eZ] at ho; exact absurd ho (by decide)) (fun eZ => cp_hi ho (by omega))).2.1)
  have C3Z : ClW K3 P3 := by
    refine ⟨fun y hy => ?_, fun y hy => ?_⟩
    · rw [k3o y.1 (fun eZ => cn_hi (cn_K hy) (by omega))]; exact C1Z.1 y hy
    · have hh := C1Z.2 y hy
      have c := cn_P hy
      have neZ : ¬ (y.1 = 1000 ∧ (y.2.1 : Int) = 10) := fun eZ => by
        have allZ : PCL.all (fun y => !(Nat.beq y.1 1000 && Nat.beq y.2.1 10)) = true := by decide
        have := List.all_eq_true.mp allZ y hy
        have e2Z : y.2.1 = 10 := by omega
        rw [eZ.1, e2Z] at this
        exact absurd this (by decide)
      have e3Z : P3 y.1 (y.2.1 : Int) = P2Z y.1 (y.2.1 : Int) := if_neg neZ
      rw [e3Z, p2o y.1 (fun eZ => cp_hi c (by omega))]; exact hh
  have k3x : K3 xZ = some (4, 0) := (upK_o _ _ (by omega)).trans ((upK_o _ _ (by omega)).trans ((upK_o _ _ (by omega)).trans ((upK_o _ _ (by omega)).trans ((upK_o _ _ (by omega)).trans ((upK_o _ _ (by omega)).trans ((upK_o _ _ (by omega)).trans (upK_eq _ _ _)))))))
  have kz : ∀ b, b < 32 → b ≠ 0 → b ≠ 3 → b ≠ 4 → b ≠ 5 → b ≠ 6 → b ≠ 7 → b ≠ 9 → b ≠ 13 → K3 (xZ + b) = none := fun b hb h0 h1 h2 h3 h4 h5 h6 h7 => (upK_o _ _ (by omega)).trans ((upK_o _ _ (by omega)).trans ((upK_o _ _ (by omega)).trans ((upK_o _ _ (by omega)).trans ((upK_o _ _ (by omega)).trans ((upK_o _ _ (by omega)).trans ((upK_o _ _ (by omega)).trans ((upK_o _ _ (by omega)).trans (f0Z b hb))))))))
  have QW3 : QuW K3 P3 xZ := by
    refine ⟨k3x, ?_, ?_, ?_, ?_, ?_, ?_, ?_, ?_, ?_, ?_, ?_, ?_, ?_, ?_⟩
    · rw [p3x]; exact (up2_k _ _ _ _ (by decide)).trans ((up2_k _ _ _ _ (by decide)).trans ((up2_k _ _ _ _ (by decide)).trans ((up2_k _ _ _ _ (by decide)).trans ((up2_k _ _ _ _ (by decide)).trans ((up2_k _ _ _ _ (by decide)).trans (up2_eq _ _ _ _))))))
    · rw [p3x]; exact (up2_k _ _ _ _ (by decide)).trans ((up2_k _ _ _ _ (by decide)).trans ((up2_k _ _ _ _ (by decide)).trans ((up2_k _ _ _ _ (by decide)).trans ((up2_k _ _ _ _ (by decide)).trans (up2_eq _ _ _ _)))))
    · rw [p3x]; exact (up2_k _ _ _ _ (by decide)).trans ((up2_k _ _ _ _ (by decide)).trans ((up2_k _ _ _ _ (by decide)).trans ((up2_k _ _ _ _ (by decide)).trans (up2_eq _ _ _ _))))
    · rw [p3x]; exact (up2_k _ _ _ _ (by decide)).trans ((up2_k _ _ _ _ (by decide)).trans ((up2_k _ _ _ _ (by decide)).trans (up2_eq _ _ _ _)))
    · rw [p3x]; exact (up2_k _ _ _ _ (by decide)).trans ((up2_k _ _ _ _ (by decide)).trans (up2_eq _ _ _ _))
    · rw [p3x]; exact (up2_k _ _ _ _ (by decide)).trans (up2_eq _ _ _ _)
    · rw [p3x]; exact up2_eq _ _ _ _
    · exact (upK_o _ _ (by omega)).trans ((upK_o _ _ (by omega)).trans ((upK_o _ _ (by omega)).trans ((upK_o _ _ (by omega)).trans ((upK_o _ _ (by omega)).trans ((upK_o _ _ (by omega)).trans (upK_eq _ _ _))))))
    · exact (upK_o _ _ (by omega)).trans ((upK_o _ _ (by omega)).trans ((upK_o _ _ (by omega)).trans ((upK_o _ _ (by omega)).trans ((upK_o _ _ (by omega)).trans (upK_eq _ _ _)))))
    · exact (upK_o _ _ (by omega)).trans ((upK_o _ _ (by omega)).trans ((upK_o _ _ (by omega)).trans ((upK_o _ _ (by omega)).trans (upK_eq _ _ _))))
    · exact (upK_o _ _ (by omega)).trans ((upK_o _ _ (by omega)).trans ((upK_o _ _ (by omega)).trans (upK_eq _ _ _)))
    · exact (upK_o _ _ (by omega)).trans ((upK_o _ _ (by omega)).trans (upK_eq _ _ _))
    · exact (upK_o _ _ (by omega)).trans (upK_eq _ _ _)
    · exact upK_eq _ _ _
  have oldQ : ∀ j, j < nq + 1 → QuW K3 P3 (qX j) := fun j hj => by
    have : QuW K P (qX j) := by
      by_cases eZ : j = nq
      · rw [eZ]; exact hQ
      · exact (hL.2.2 j (by omega)).2
    refine this.fr2 (fun a ha => ?_) ?_
    · rw [k3o _ (by rw [hx]; unfold qX; omega)]; exact (outZ _ (by unfold qX; omega) (by unfold qX; omega)).1
    · rw [p3o _ (by unfold qX; omega), p2o _ (by rw [hx]; unfold qX; omega)]; exact (outZ _ (by unfold qX; omega) (by unfold qX; omega)).2.1
  have ld1 := ld_in (b := 12200) l1.2.2.1
  have pl3 : P3 (ldn 12200 l) = P1Z (ldn 12200 l) := by rw [p3o _ (by omega), p2o _ (by omega)]
  have e3Z : ∀ o, o ≠ 1000 → o ≠ 1480 → ¬ (12200 < o ∧ o < 12220) → ¬ (qX (nq + 1) ≤ o ∧ o < qX (nq + 1) + 32) → K3 o = K o ∧ P3 o = P o := fun o h1 h2 h3 h4 => by
    rw [k3o o h4, p3o o h1, p2o o (fun eZ => h4 (by rw [eZ]; omega))]
    exact ⟨(outZ o h2 h3).1, (outZ o h2 h3).2.1⟩
  refine ⟨l, 8 + cc, 118 + zz, K3, P3, I1, ⟨⟨⟨?_, ?_, ?_⟩, fun j j0 j1 => ?_, l1.2.2.1, l1.2.2.2.1, fun i y i0 i1 hy => ?_⟩, by omega, fun j hj => ⟨?_, oldQ j hj⟩⟩, C3Z, up2_eq _ _ _ _, QW3, fun j j0 j1 a ha => ⟨?_, fun k => ?_⟩, fun j i j0 j1 => ?_, ⟨by omega, by omega⟩, l7, e3Z, ⟨?_, fun k hk => ?_⟩, ?_⟩
  · rw [k3o _ (by omega)]; exact l1.1.1
  · rw [p3o _ (by decide), p2o _ (by omega)]; exact l1.1.2.1
  · rw [k3o _ (by omega)]; exact l1.1.2.2
  · rw [k3o _ (by omega)]; exact l1.2.1 j j0 j1
  · rw [pl3] at hy
    by_cases eZ : i = nq
    · rw [eZ, l6] at hy
      rw [← Option.some.inj hy]
      exact ⟨0, (oldQ nq (by omega)).k⟩
    · rw [l5 i i0 (by omega)] at hy
      have := (hL.2.2 i.toNat (by omega)).1
      rw [show ((i.toNat : Nat) : Int) = i by omega, hy] at this
      rw [Option.some.inj this]
      exact ⟨0, (oldQ i.toNat (by omega)).k⟩
  · rw [pl3]
    by_cases eZ : j = nq
    · rw [eZ]; exact l6
    · rw [l5 j (by omega) (by omega)]; exact (hL.2.2 j (by omega)).1
  · rw [k3o _ (by rw [hx]; unfold qX; omega), (outZ _ (by unfold qX; omega) (by unfold qX; omega)).1]
    exact (hK j (by omega) j1 a ha).1
  · rw [(outZ _ (by unfold qX; omega) (by unfold qX; omega)).2.2]
    exact (hK j (by omega) j1 a ha).2 k
  · rw [p3o _ (by omega), p2o _ (by omega)]; exact l9 j i j0 j1
  · rw [k3o _ (by omega)]; exact (outZ 1000 (by decide) (by omega)).1
  · have e9Z : P3 1000 k = P2Z 1000 k := if_neg (fun z => hk z.2)
    rw [e9Z, p2o _ (by omega), (outZ 1000 (by decide) (by omega)).2.1]
  have spZ : Sp m_java_util_ArrayList_size false (rmv 0 0) (ex K P J I (.inl (some (vI (nq : Int))))) K P J I [vR (some 1480)] := by
    have := sp_java_util_ArrayList_size (K := K) (J := J) (I := I) (P := P) (o := 1480) hL.1.1.1
    rw [hz] at this
    exact this
  have k1480 : K3 1480 = some (12, 0) := by rw [k3o _ (by omega)]; exact l1.1.1
  have spE : Sp m_java_util_ArrayList_size false (rmv 0 0) (ex K3 P3 J I1 (.inl (some (vI ((nq + 1 : Nat) : Int))))) K3 P3 J I1 [vR (some 1480)] := by
    have := sp_java_util_ArrayList_size (K := K3) (J := J) (I := I1) (P := P3) (o := 1480) k1480
    rw [l1.2.2.2.1.1] at this
    exact this
  have spI := sp_Query_init (K := K2) (P := P1Z) (J := J) (I := I1) (q := xZ) (upK_eq _ _ _) (fun j j0 j1 => (upK_o _ _ (by omega)).trans (f0Z j j1))
  have spD : Sp m_F_demandState true rmD0 (ex K P J I (.inl none)) K P J I [vI 1] := sp_F_demandState1 (by decide)
  refine Sp.ofV (by decide) (Or.inl rfl) rfl ?_
  refine VW.aload_n (pc' := 1) d_F_query_0 rfl rfl ?_
  refine VW.gP (ci := 10) (T := T10) (N := 11) (k := 10) (k' := 10) (pc' := 4) d_F_query_1 rfl lk_F_66 in10 rfl rfl rfl rfl (by first | exact hC.k 0 rfl | exact hC.k 54 rfl | exact hQ.k) (by first | exact hp | exact hC.p 4 rfl | rfl) ?_
  refine VW.gI (ci := 4) (T := T4) (N := 13) (k := 7) (k' := 7) (pc' := 7) d_F_query_4 rfl lk_F_228 in4 rfl rfl rfl rfl (by first | exact hC.k 0 rfl | exact hC.k 54 rfl | exact hQ.k) (by first | exact hp | exact hC.p 4 rfl | rfl) ?_
  refine VW.iconst (pc' := 8) d_F_query_7 rfl (by decide) ?_
  refine VW.icmp_ne (tgt := 27) (pc' := 11) d_F_query_8 rfl rfl (fun c8 => ?_) (fun c8 => ?_)
  case refine_1 => exact absurd c8 (fun z => z h7)
  refine VW.aload_n (pc' := 12) d_F_query_11 rfl rfl ?_
  refine VW.gP (ci := 10) (T := T10) (N := 11) (k := 4) (k' := 4) (pc' := 15) d_F_query_12 rfl lk_F_42 in10 rfl rfl rfl rfl (by first | exact hC.k 0 rfl | exact hC.k 54 rfl | exact hQ.k) (by first | exact hp | exact hC.p 4 rfl | rfl) ?_
  refine VW.cV (ci := 12) (T := T12) (N := 3) (pc' := 18) d_F_query_15 rfl mv_java_util_ArrayList_size lk_F_147 rfl (by first | exact hC.k 0 rfl | exact hC.k 54 rfl | exact hQ.k) rfl rfl rfl (by exact (show 0 + 0 ≤ 8 + cc by omega)) (by exact (show 0 + 0 ≤ 118 + zz by omega)) (spZ) rfl rfl ?_
  refine VW.bipush (pc' := 20) d_F_query_18 rfl (by decide) ?_
  refine VW.icmp_ge (tgt := 27) (pc' := 23) d_F_query_20 rfl rfl (fun c20 => ?_) (fun c20 => ?_)
  case refine_1 => exact absurd c20 (by omega)
  refine VW.iconst (pc' := 24) d_F_query_23 rfl (by decide) ?_
  refine VW.goto (pc' := 28) d_F_query_24 rfl ?_
  refine VW.callSX (pc' := 31) d_F_query_28 rfl (spD) rfl ms_F_demandState.1 ms_F_demandState.2.1 rfl ms_F_demandState.2.2 lk_F_82 rfl rfl rfl (by exact (show 0 + 0 ≤ 8 + cc by omega)) (by exact (show 0 + 0 ≤ 118 + zz by omega)) (fun _ _ _ _ _ hz => by cases hz.1) (fun r _ _ _ _ hz => ?_)
  obtain ⟨z1, z2, z3, z4, z5⟩ := hz
  cases z1
  replace z2 := z2.symm; replace z3 := z3.symm; replace z4 := z4.symm; replace z5 := z5.symm
  subst z2; subst z3; subst z4; subst z5
  refine VW.aload_n (pc' := 32) d_F_query_31 rfl rfl ?_
  refine VW.gP (ci := 10) (T := T10) (N := 11) (k := 4) (k' := 4) (pc' := 35) d_F_query_32 rfl lk_F_42 in10 rfl rfl rfl rfl (by first | exact hC.k 0 rfl | exact hC.k 54 rfl | exact hQ.k) (by first | exact hp | exact hC.p 4 rfl | rfl) ?_
  refine VW.aload_n (pc' := 36) d_F_query_35 rfl rfl ?_
  refine VW.gP (ci := 10) (T := T10) (N := 11) (k := 10) (k' := 10) (pc' := 39) d_F_query_36 rfl lk_F_66 in10 rfl rfl rfl rfl (by first | exact hC.k 0 rfl | exact hC.k 54 rfl | exact hQ.k) (by first | exact hp | exact hC.p 4 rfl | rfl) ?_
  refine VW.cV (ci := 12) (T := T12) (N := 3) (pc' := 42) d_F_query_39 rfl mv_java_util_ArrayList_add lk_F_263 rfl (by first | exact hC.k 0 rfl | exact hC.k 54 rfl | exact hQ.k) rfl rfl rfl (by exact (show 0 + 0 + cc ≤ 8 + cc by omega)) (by exact (show 0 + 0 + zz ≤ 118 + zz by omega)) (spA) rfl rfl ?_
  refine VW.pop (pc' := 43) d_F_query_42 rfl rfl ?_
  refine VW.aload_n (pc' := 44) d_F_query_43 rfl rfl ?_
  refine VW.new xZ (ci := 4) (T := T4) (N := 13) (ty := ty4) (pc' := 47) d_F_query_44 rfl lk_F_63 kw_instantiable_RowForge_Query_13 kw_initialized_RowForge_Query in4 tk4 rfl df4 (knZ) (by exact (show 0 + 0 + cc + 1 ≤ 8 + cc by omega)) (by exact (show 0 + 0 + zz + 13 ≤ 118 + zz by omega)) ?_
  refine VW.dup (pc' := 48) d_F_query_47 rfl rfl ?_
  refine VW.cIN (host := "RowForge") (pc' := 51) d_F_query_48 rfl mi_Query_init (by decide) rfl rfl rfl (by exact (show 0 + 0 + cc + 1 + 7 ≤ 8 + cc by omega)) (by exact (show 0 + 0 + zz + 13 + 105 ≤ 118 + zz by omega)) (spI) rfl rfl ?_
  refine VW.pP (ci := 10) (T := T10) (N := 11) (k := 10) (k' := 10) (ty := ty10) (pc' := 54) d_F_query_51 rfl lk_F_66 in10 tk10 nm10 rfl rfl rfl rfl rfl (by first | exact Or.inl ⟨_, rfl⟩ | exact Or.inr ⟨_, rfl⟩) (C3Z.k 0 rfl) ?_
  refine VW.aload_n (pc' := 55) d_F_query_54 rfl rfl ?_
  refine VW.gP (ci := 10) (T := T10) (N := 11) (k := 4) (k' := 4) (pc' := 58) d_F_query_55 rfl lk_F_42 in10 rfl rfl rfl rfl (C3Z.k 0 rfl) (C3Z.p 4 rfl) ?_
  refine VW.cV (ci := 12) (T := T12) (N := 3) (pc' := 61) d_F_query_58 rfl mv_java_util_ArrayList_size lk_F_147 rfl (k1480) rfl rfl rfl (by exact (show 0 + 0 + cc + 1 + 7 + 0 ≤ 8 + cc by omega)) (by exact (show 0 + 0 + zz + 13 + 105 + 0 ≤ 118 + zz by omega)) (spE) rfl rfl ?_
  refine VW.iconst (pc' := 62) d_F_query_61 rfl (by decide) ?_
  refine VW.isub (pc' := 63) d_F_query_62 rfl (by omega) ?_
  exact VW.iret d_F_query_63 rfl rfl (by exact (show 0 + 0 + cc + 1 + 7 + 0 ≤ 8 + cc by omega)) (by exact (show 0 + 0 + zz + 13 + 105 + 0 ≤ 118 + zz by omega)) ex_rf
end
