/-! view: the class's shape behind it -/
section
variable {K : KT} {P : PT} {J I S : IT} {nv nq l3 l4 lqq y : Nat} {a : Int}
def ViwQ2 (K : KT) (P : PT) (J I S : IT) (nv y : Nat) : PQ := fun r K' P' J' I' => ViwQ K P J I S nv y r K' P' J' I' ∧ ClW K' P'
theorem view_run2 (hC : ClW K P) (hEv : EvW K P) (hs : StV I S) (hQs : QsR I S nq) (hL : QnL K P I nq lqq) (hV : VnL K P I S nv l3 l4) (hy : y < nq) (hvw : mVw S y) (hv0 : ∀ j : Nat, j < nv → 0 ≤ S 269 j ∧ S 269 j < nq) (h68 : S 100 68 = nv) (hc0 : 0 ≤ I (qX y) 0 ∧ I (qX y) 0 ≤ 12) (hqv : ∀ x, 0 ≤ x → x < I (qX y) 0 → quVwG I (qX y) x) (h6 : nv < 6) (hK : FreeV K I nv) (hF3 : FreeL P 12300 l3) (hF4 : FreeL P 12400 l4) : Sp m_F_view true ({ frames := 12, cells := 24, slots := 8400, locals := 420 } : Room) (ViwQ2 K P J I S nv y) K P J I [vR (some 1000), vI (y : Int)] := by
  have hQ := (hL.2.2 y hy).2
  have hz : I 1480 2 = (nq : Int) := hL.1.2.2.2.1.1
  have hcp := hL.1.2.2.2.1.2.1
  have el := (hL.2.2 y hy).1
  have spG := sp_java_util_ArrayList_get (J := J) (I := I) (i := (y : Int)) hL.1.1 (by rw [hz]; omega) (by rw [hz]; omega)
  rw [el] at spG
  have spY := F_hasQ1 (J := J) hC hz (a := (y : Int)) ⟨by omega, by omega⟩
  have spV := sp_Query_isViewable (J := J) hQ hc0
  rw [bI1 hqv] at spV
  have spZ : Sp m_java_util_ArrayList_size false (rmv 0 0) (ex K P J I (.inl (some (vI (nv : Int))))) K P J I [vR (some 1512)] := by
    have := sp_java_util_ArrayList_size (K := K) (J := J) (I := I) (P := P) (o := 1512) hV.1.1.1.1
    rw [hV.1.1.2.2.2.1.1] at this
    exact this
  have q20 := hL.2.1
  have vx : 11000 ≤ vX nv ∧ vX nv + 32 ≤ 11192 := by unfold vX; omega
  have knZ : K (vX nv) = none := (hK nv (Nat.le_refl _) h6 0 (by decide)).1
  have kn1 : K (vX nv + 1) = none := (hK nv (Nat.le_refl _) h6 1 (by decide)).1
  let K0 := upK K (vX nv) (5, 0)
  let K1 := upK K0 (vX nv + 1) (100, 5120)
  let P1Z := up2 P (vX nv) 0 (some (vX nv + 1))
  have k1o : ∀ o, o ≠ vX nv → o ≠ vX nv + 1 → K1 o = K o := fun o g1 g2 => (upK_o _ _ g2).trans (upK_o _ _ g1)
  have p1o : ∀ o, o ≠ vX nv → P1Z o = P o := fun o g => funext (fun k => up2_o _ _ _ _ g)
  have k1x : K1 (vX nv) = some (5, 0) := (upK_o _ _ (by omega)).trans (upK_eq _ _ _)
  have k1y : K1 (vX nv + 1) = some (100, 5120) := upK_eq _ _ _
  have spI := sp_Relation_init (K := K0) (P := P) (J := J) (I := I) (e := vX nv) (c := vX nv + 1) (upK_eq _ _ _) ((upK_o _ _ (by omega)).trans kn1)
  have C1Z : ClW K1 P1Z := hC.fr (fun o ho => k1o o (fun z => cn_hi ho (by omega)) (fun z => cn_hi ho (by omega))) (fun o ho => p1o o (fun z => cp_hi ho (by omega)))
  have hEv1 : EvW K1 P1Z := hEv.frm (fun o ho => by unfold nEv at ho; exact ⟨k1o o (by omega) (by omega), p1o o (by omega)⟩)
  have hQ1 : QuW K1 P1Z (qX y) := hQ.fr2 (fun b hb => k1o _ (by unfold qX; omega) (by unfold qX; omega)) (p1o _ (by unfold qX; omega))
  obtain ⟨nZ, wZ, LZ, f1Z, f2Z, spZZ⟩ := stored_eval (J := J) C1Z hEv1 hs hQs hy hQ1
  have nfZ := view_ok (s := 4) (y := 0) hvw f1Z.1.1 nZ (Nat.le_refl _)
  have fb := f1Z.b
  have k00 : K0 1000 = some (10, 0) := (upK_o _ _ (by omega)).trans (hC.k 0 rfl)
  refine Sp.ofV (by decide) (Or.inl rfl) rfl ?_
  refine VW.aload_n (pc' := 1) d_F_view_0 rfl rfl ?_
  refine VW.iload_n (pc' := 2) d_F_view_1 rfl rfl ?_
  refine VW.cV (ci := 10) (T := T10) (N := 11) (pc' := 5) d_F_view_2 rfl mv_F_hasQuery lk_F_267 rfl (by first | exact hC.k 0 rfl | exact hC.k 54 rfl | exact hC.k 55 rfl | exact hQ.k | exact k00 | exact C1Z.k 0 rfl | exact C1Z.k 26 rfl | exact C1Z.k 9 rfl | exact hW2.1 | exact k2o | exact k3o | exact k244 | exact k312 | exact LV3.1.1 | exact C2Z.k 0 rfl | exact k1x) rfl rfl rfl (by decide) (by decide) (spY) rfl rfl ?_
  refine VW.callSX (pc' := 8) d_F_view_5 rfl (sp_F_demandPlace1 (by decide)) rfl ms_F_demandPlace.1 ms_F_demandPlace.2.1 rfl ms_F_demandPlace.2.2 lk_F_97 rfl rfl rfl (by decide) (by decide) (fun _ _ _ _ _ hz => by cases hz.1) (fun r _ _ _ _ hz => ?_)
  obtain ⟨z1, z2, z3, z4, z5⟩ := hz
  cases z1
  replace z2 := z2.symm; replace z3 := z3.symm; replace z4 := z4.symm; replace z5 := z5.symm
  subst z2; subst z3; subst z4; subst z5
  refine VW.aload_n (pc' := 9) d_F_view_8 rfl rfl ?_
  refine VW.gP (ci := 10) (T := T10) (N := 11) (k := 4) (k' := 4) (pc' := 12) d_F_view_9 rfl lk_F_42 in10 rfl rfl rfl rfl (by first | exact hC.k 0 rfl | exact hC.k 54 rfl | exact hC.k 55 rfl | exact hQ.k | exact k00 | exact C1Z.k 0 rfl | exact C1Z.k 26 rfl | exact C1Z.k 9 rfl | exact hW2.1 | exact k2o | exact k3o | exact k244 | exact k312 | exact LV3.1.1 | exact C2Z.k 0 rfl | exact k1x) (by first | exact pA | exact pB | exact hC.p 4 rfl | exact hC.p 5 rfl | exact C1Z.p 2 rfl | exact C1Z.p 1 rfl | exact C1Z.p 16 rfl | exact C2Z.p 5 rfl | rfl) ?_
  refine VW.iload_n (pc' := 13) d_F_view_12 rfl rfl ?_
  refine VW.cV (ci := 12) (T := T12) (N := 3) (pc' := 16) d_F_view_13 rfl mv_java_util_ArrayList_get lk_F_270 rfl (by first | exact hC.k 0 rfl | exact hC.k 54 rfl | exact hC.k 55 rfl | exact hQ.k | exact k00 | exact C1Z.k 0 rfl | exact C1Z.k 26 rfl | exact C1Z.k 9 rfl | exact hW2.1 | exact k2o | exact k3o | exact k244 | exact k312 | exact LV3.1.1 | exact C2Z.k 0 rfl | exact k1x) rfl rfl rfl (by decide) (by decide) (spG) rfl rfl ?_
  refine VW.cast (ci := 4) (T := T4) (NN := 13) (pc' := 19) d_F_view_16 rfl lk_F_63 rfl (by first | exact hC.k 0 rfl | exact hC.k 54 rfl | exact hC.k 55 rfl | exact hQ.k | exact k00 | exact C1Z.k 0 rfl | exact C1Z.k 26 rfl | exact C1Z.k 9 rfl | exact hW2.1 | exact k2o | exact k3o | exact k244 | exact k312 | exact LV3.1.1 | exact C2Z.k 0 rfl | exact k1x) ?_
  refine VW.astore_n (pc' := 20) d_F_view_19 rfl rfl ?_
  refine VW.aload_n (pc' := 21) d_F_view_20 rfl rfl ?_
  refine VW.cV (ci := 4) (T := T4) (N := 13) (pc' := 24) d_F_view_21 rfl mv_Query_isViewable lk_F_315 rfl (by first | exact hC.k 0 rfl | exact hC.k 54 rfl | exact hC.k 55 rfl | exact hQ.k | exact k00 | exact C1Z.k 0 rfl | exact C1Z.k 26 rfl | exact C1Z.k 9 rfl | exact hW2.1 | exact k2o | exact k3o | exact k244 | exact k312 | exact LV3.1.1 | exact C2Z.k 0 rfl | exact k1x) rfl rfl rfl (by decide) (by decide) (spV) rfl rfl ?_
  refine VW.if_eq (tgt := 43) (pc' := 27) d_F_view_24 rfl rfl (fun c24 => ?_) (fun c24 => ?_)
  case refine_1 => exact absurd c24 (by decide)
  refine VW.aload_n (pc' := 28) d_F_view_27 rfl rfl ?_
  refine VW.gP (ci := 10) (T := T10) (N := 11) (k := 5) (k' := 5) (pc' := 31) d_F_view_28 rfl lk_F_46 in10 rfl rfl rfl rfl (by first | exact hC.k 0 rfl | exact hC.k 54 rfl | exact hC.k 55 rfl | exact hQ.k | exact k00 | exact C1Z.k 0 rfl | exact C1Z.k 26 rfl | exact C1Z.k 9 rfl | exact hW2.1 | exact k2o | exact k3o | exact k244 | exact k312 | exact LV3.1.1 | exact C2Z.k 0 rfl | exact k1x) (by first | exact pA | exact pB | exact hC.p 4 rfl | exact hC.p 5 rfl | exact C1Z.p 2 rfl | exact C1Z.p 1 rfl | exact C1Z.p 16 rfl | exact C2Z.p 5 rfl | rfl) ?_
  refine VW.cV (ci := 12) (T := T12) (N := 3) (pc' := 34) d_F_view_31 rfl mv_java_util_ArrayList_size lk_F_147 rfl (by first | exact hC.k 0 rfl | exact hC.k 54 rfl | exact hC.k 55 rfl | exact hQ.k | exact k00 | exact C1Z.k 0 rfl | exact C1Z.k 26 rfl | exact C1Z.k 9 rfl | exact hW2.1 | exact k2o | exact k3o | exact k244 | exact k312 | exact LV3.1.1 | exact C2Z.k 0 rfl | exact k1x) rfl rfl rfl (by decide) (by decide) (spZ) rfl rfl ?_
  refine VW.bipush (pc' := 36) d_F_view_34 rfl (by decide) ?_
  refine VW.icmp_ge (tgt := 43) (pc' := 39) d_F_view_36 rfl rfl (fun c36 => ?_) (fun c36 => ?_)
  case refine_1 => exact absurd c36 (by omega)
  refine VW.iconst (pc' := 40) d_F_view_39 rfl (by decide) ?_
  refine VW.goto (pc' := 44) d_F_view_40 rfl ?_
  refine VW.callSX (pc' := 47) d_F_view_44 rfl (sp_F_demandState1 (by decide)) rfl ms_F_demandState.1 ms_F_demandState.2.1 rfl ms_F_demandState.2.2 lk_F_82 rfl rfl rfl (by decide) (by decide) (fun _ _ _ _ _ hz => by cases hz.1) (fun r _ _ _ _ hz => ?_)
  obtain ⟨z1, z2, z3, z4, z5⟩ := hz
  cases z1
  replace z2 := z2.symm; replace z3 := z3.symm; replace z4 := z4.symm; replace z5 := z5.symm
  subst z2; subst z3; subst z4; subst z5
  refine VW.new (vX nv) (ci := 5) (T := T5) (N := 3) (ty := ty5) (pc' := 50) d_F_view_47 rfl lk_F_52 kw_instantiable_RowForge_Relation_3 kw_initialized_RowForge_Relation in5 tk5 rfl df5 (knZ) (by decide) (by decide) ?_
  refine VW.dup (pc' := 51) d_F_view_50 rfl rfl ?_
  refine VW.cIN (host := "RowForge") (pc' := 54) d_F_view_51 rfl mi_Relation_init (by decide) rfl rfl rfl (by decide) (by decide) (spI) rfl rfl ?_
  refine VW.astore_n (pc' := 55) d_F_view_54 rfl rfl ?_
  refine VW.aload_n (pc' := 56) d_F_view_55 rfl rfl ?_
  refine VW.aload_n (pc' := 57) d_F_view_56 rfl rfl ?_
  refine VW.gP (ci := 10) (T := T10) (N := 11) (k := 2) (k' := 2) (pc' := 60) d_F_view_57 rfl lk_F_28 in10 rfl rfl rfl rfl (by first | exact hC.k 0 rfl | exact hC.k 54 rfl | exact hC.k 55 rfl | exact hQ.k | exact k00 | exact C1Z.k 0 rfl | exact C1Z.k 26 rfl | exact C1Z.k 9 rfl | exact hW2.1 | exact k2o | exact k3o | exact k244 | exact k312 | exact LV3.1.1 | exact C2Z.k 0 rfl | exact k1x) (by first | exact pA | exact pB | exact hC.p 4 rfl | exact hC.p 5 rfl | exact C1Z.p 2 rfl | exact C1Z.p 1 rfl | exact C1Z.p 16 rfl | exact C2Z.p 5 rfl | rfl) ?_
  refine VW.aload_n (pc' := 61) d_F_view_60 rfl rfl ?_
  refine VW.aload_n (pc' := 62) d_F_view_61 rfl rfl ?_
  refine VW.gP (ci := 10) (T := T10) (N := 11) (k := 1) (k' := 1) (pc' := 65) d_F_view_62 rfl lk_F_21 in10 rfl rfl rfl rfl (by first | exact hC.k 0 rfl | exact hC.k 54 rfl | exact hC.k 55 rfl | exact hQ.k | exact k00 | exact C1Z.k 0 rfl | exact C1Z.k 26 rfl | exact C1Z.k 9 rfl | exact hW2.1 | exact k2o | exact k3o | exact k244 | exact k312 | exact LV3.1.1 | exact C2Z.k 0 rfl | exact k1x) (by first | exact pA | exact pB | exact hC.p 4 rfl | exact hC.p 5 rfl | exact C1Z.p 2 rfl | exact C1Z.p 1 rfl | exact C1Z.p 16 rfl | exact C2Z.p 5 rfl | rfl) ?_
  refine VW.gP (ci := 0) (T := T0) (N := 8) (k := 1) (k' := 1) (pc' := 68) d_F_view_65 rfl lk_F_110 in0 rfl rfl rfl rfl (by first | exact hC.k 0 rfl | exact hC.k 54 rfl | exact hC.k 55 rfl | exact hQ.k | exact k00 | exact C1Z.k 0 rfl | exact C1Z.k 26 rfl | exact C1Z.k 9 rfl | exact hW2.1 | exact k2o | exact k3o | exact k244 | exact k312 | exact LV3.1.1 | exact C2Z.k 0 rfl | exact k1x) (by first | exact pA | exact pB | exact hC.p 4 rfl | exact hC.p 5 rfl | exact C1Z.p 2 rfl | exact C1Z.p 1 rfl | exact C1Z.p 16 rfl | exact C2Z.p 5 rfl | rfl) ?_
  refine VW.iconst (pc' := 69) d_F_view_68 rfl (by decide) ?_
  refine VW.cVq (ci := 1) (T := T1) (N := 7) (pc' := 72) d_F_view_69 rfl mv_Evaluator_evaluate lk_F_318 rfl (by first | exact hC.k 0 rfl | exact hC.k 54 rfl | exact hC.k 55 rfl | exact hQ.k | exact k00 | exact C1Z.k 0 rfl | exact C1Z.k 26 rfl | exact C1Z.k 9 rfl | exact hW2.1 | exact k2o | exact k3o | exact k244 | exact k312 | exact LV3.1.1 | exact C2Z.k 0 rfl | exact k1x) rfl rfl rfl (by decide) (by decide) (spZZ) rfl rfl (fun r9 K9 P9 J9 I9 hz9 => ?_)
  obtain ⟨y1, y2, y3, y4, y5, y6⟩ := hz9
  replace y1 := y1.symm; replace y2 := y2.symm
  subst y1; subst y2
  rcases y6 with ⟨fZ, -⟩ | ⟨-, eZ, MZ, g0, ⟨g1, g2, g3Z⟩, g4, g5Z, g6⟩
  · exact absurd fZ nfZ
  cases g0
  have C2Z := C1Z.evp y5
  have mlZ : MZ.length = LZ.length := g5Z.length_eq
  have ee := g1.ev
  have ee2 := g2.ev
  unfold nEv at ee ee2
  have hW2 : ReW K1 P9 (vX nv) (vX nv + 1) 5120 := ⟨k1x, by rw [y5 _ (by omega)]; exact up2_eq _ _ _ _, k1y⟩
  have mb : 0 ≤ I9 eZ 1 * I9 eZ 2 ∧ I9 eZ 1 * I9 eZ 2 ≤ 5120 := by
    rw [g4.1, g4.2.1]
    exact ⟨mulNN (by omega) (by omega), mulUp (W := 512) (n := 10) (by omega) (by omega) (by omega) (by omega)⟩
  have spK := sp_Relation_copyFrom (J := J) (I := I9) hW2 g3Z (by omega) ⟨mb.1, by omega, by omega, by decide⟩
  have cR := copy_R (c := vX nv) (k := vX nv + 1) g4 (by omega) (by omega) (by omega)
  have t0Z : ∀ o, ¬ nEv o → o ≠ vX nv → o ≠ vX nv + 1 → cpyI (up2 (up2 I9 (vX nv) 1 (I9 eZ 1)) (vX nv) 2 (I9 eZ 2)) (eZ + 1) 0 (vX nv + 1) 0 (I9 eZ 1 * I9 eZ 2) o = I o := fun o a b d => by rw [copy_o b d]; exact y4 o a
  generalize cpyI (up2 (up2 I9 (vX nv) 1 (I9 eZ 1)) (vX nv) 2 (I9 eZ 2)) (eZ + 1) 0 (vX nv + 1) 0 (I9 eZ 1 * I9 eZ 2) = T at *
  have p9o : ∀ o, o ≠ 1226 → o ≠ vX nv → P9 o = P o := fun o a b => (y5 o a).trans (p1o o b)
  have LV3 : LsV K1 P9 T 1512 12300 l3 nv 4 := hV.1.1.fr (fun x hx => ⟨k1o x (by omega) (by omega), p9o x (by omega) (by omega), t0Z x (by unfold nEv; omega) (by omega) (by omega)⟩) (fun j q j0 j1 hq => by
    have hj := (hV.2.2 j.toNat (by omega)).1
    rw [show ((j.toNat : Nat) : Int) = j by omega] at hj
    have hv1 := hv0 j.toNat (by omega)
    rw [hj] at hq
    rw [← Option.some.inj hq]
    rw [show ((j.toNat : Nat) : Int) = j by omega] at hv1
    exact ⟨0, (k1o _ (by unfold qX; omega) (by unfold qX; omega)).trans (hL.2.2 (S 269 j).toNat (by omega)).2.k⟩)
  obtain ⟨l3', c3Z, n3Z, K2, P2Z, I2Z, a1Z, a2, a3, a4, a5, a6, a7, a8, a9, spA⟩ := list_add (J := J) (e := qX y) LV3 hQ1.k (show classes[4]? = some ("RowForge$Query", T4, 13) from rfl) (by decide) (by omega) (by omega) (by omega) (by omega) (fun j i j0 j1 => by rw [p9o _ (by omega) (by omega)]; exact hF3 j i j0 j1)
  have o2 : ∀ o, ¬ lsN 12300 1512 o → K2 o = K1 o ∧ P2Z o = P9 o ∧ I2Z o = T o := a2
  have k2x : K2 (vX nv) = some (5, 0) := (o2 _ (by unfold lsN; omega)).1.trans k1x
  have LV4 : LsV K2 P2Z I2Z 1544 12400 l4 nv 5 := hV.1.2.fr (fun x hx => by
    obtain ⟨u1Z, u2Z, u3⟩ := o2 x (by unfold lsN; omega)
    rw [u1Z, u2Z, u3]
    exact ⟨k1o x (by omega) (by omega), p9o x (by omega) (by omega), t0Z x (by unfold nEv; omega) (by omega) (by omega)⟩) (fun j q j0 j1 hq => by
    have hj := (hV.2.2 j.toNat (by omega)).2.1
    rw [show ((j.toNat : Nat) : Int) = j by omega] at hj
    rw [hj] at hq
    rw [← Option.some.inj hq]
    refine ⟨0, (o2 _ (by unfold lsN vX; omega)).1.trans ((k1o _ (by unfold vX; omega) (by unfold vX; omega)).trans (hV.2.2 j.toNat (by omega)).2.2.1)⟩)
  obtain ⟨l4', c4Z, n4Z, K3, P3, I3, b1, b2, b3, b4, b5, b6, b7, b8, b9, spB⟩ := list_add (J := J) (e := vX nv) LV4 k2x (show classes[5]? = some ("RowForge$Relation", T5, 3) from rfl) (by decide) (by omega) (by omega) (by omega) (by omega) (fun j i j0 j1 => by
    rw [(o2 _ (by unfold lsN; omega)).2.1, p9o _ (by omega) (by omega)]; exact hF4 j i j0 j1)
  have o3Z : ∀ o, ¬ lsN 12400 1544 o → K3 o = K2 o ∧ P3 o = P2Z o ∧ I3 o = I2Z o := b2
  have C3Z : ClW K3 P3 := C2Z.ls2 (fun o ho kn => by
    by_cases e2 : o = 1512
    · rw [e2, (o3Z 1512 (by unfold lsN; omega)).1]; exact a1Z.1.1.trans LV3.1.1.symm
    · by_cases e3 : o = 1544
      · rw [e3]; exact b1.1.1.trans (LV4.1.1.symm.trans (o2 1544 (by unfold lsN; omega)).1)
      · exact (o3Z o (by unfold lsN; omega)).1.trans (o2 o (by unfold lsN; omega)).1) (fun o ho n1 n2 => (o3Z o (by unfold lsN; omega)).2.1.trans (o2 o (by unfold lsN; omega)).2.1)
  have l3b := pl_b _ a1Z.2.2.1
  have l4b := pl_b _ b1.2.2.1
  have l3c := a1Z.2.2.1
  have l4c := b1.2.2.1
  have k2o : K2 1000 = some (10, 0) := (o2 _ (by unfold lsN; omega)).1.trans (C1Z.k 0 rfl)
  have k3o : K3 1000 = some (10, 0) := (o3Z _ (by unfold lsN; omega)).1.trans k2o
  have p2o : P2Z 1000 = P9 1000 := (o2 _ (by unfold lsN; omega)).2.1
  have p3o : P3 1000 = P2Z 1000 := (o3Z _ (by unfold lsN; omega)).2.1
  have k244 : K2 1544 = some (12, 0) := LV4.1.1
  have k312 : K3 1512 = some (12, 0) := (o3Z _ (by unfold lsN; omega)).1.trans a1Z.1.1
  have pA : P2Z 1000 6 = some 1544 := by rw [p2o]; exact C2Z.p 6 rfl
  have pB : P3 1000 5 = some 1512 := by rw [p3o, p2o]; exact C2Z.p 5 rfl
  have spZ3 : Sp m_java_util_ArrayList_size false (rmv 0 0) (ex K3 P3 J I3 (.inl (some (vI ((nv + 1 : Nat) : Int))))) K3 P3 J I3 [vR (some 1512)] := by
    have := sp_java_util_ArrayList_size (K := K3) (J := J) (I := I3) (P := P3) (o := 1512) k312
    rw [(o3Z 1512 (by unfold lsN; omega)).2.2, a1Z.2.2.2.1.1] at this
    exact this
  have outZ : ∀ o, ¬ nEv o → o ≠ vX nv → o ≠ vX nv + 1 → ¬ lsN 12300 1512 o → ¬ lsN 12400 1544 o → K3 o = K o ∧ P3 o = P o ∧ I3 o = I o := fun o h1 h2 h3 h4 h5 => by
    obtain ⟨u1Z, u2Z, u3⟩ := o3Z o h5
    obtain ⟨v1Z, v2, v3⟩ := o2 o h4
    rw [u1Z, u2Z, u3, v1Z, v2, v3]
    exact ⟨k1o o h2 h3, p9o o (fun z => h1 (by rw [z]; unfold nEv; omega)) h2, t0Z o h1 h2 h3⟩
  have ev3 : EvW K3 P3 := y3.frm (fun o ho => by
    unfold nEv at ho
    obtain ⟨u1Z, u2Z, -⟩ := o3Z o (by unfold lsN; omega)
    obtain ⟨v1Z, v2, -⟩ := o2 o (by unfold lsN; omega)
    exact ⟨u1Z.trans v1Z, u2Z.trans v2⟩)
  have rxZ : RelR I3 (vX nv) (vX nv + 1) wZ MZ := cR.fr ((o3Z _ (by unfold lsN; omega)).2.2.trans (o2 _ (by unfold lsN; omega)).2.2) ((o3Z _ (by unfold lsN; omega)).2.2.trans (o2 _ (by unfold lsN; omega)).2.2)
  have v9 : ∀ j : Nat, j < nv → (f_Model_view y S).1 269 j = S 269 j := fun j hj => by
    show up2 (up2 S 269 (S 100 68) y) 100 68 (S 100 68 + 1) 269 j = S 269 j
    rw [up2_o _ _ _ _ (by decide), up2_k _ _ _ _ (by omega)]
  have v8 : (f_Model_view y S).1 269 nv = y := by
    show up2 (up2 S 269 (S 100 68) y) 100 68 (S 100 68 + 1) 269 nv = y
    rw [up2_o _ _ _ _ (by decide), h68, up2_eq]
  have LA : LsV K3 P3 I3 1512 12300 l3' (nv + 1) 4 := a1Z.fr (fun x hx => o3Z x (by unfold lsN; omega)) (fun j q j0 j1 hq => by
    obtain ⟨zx, hzx⟩ := a1Z.2.2.2.2 j q j0 j1 hq
    refine ⟨zx, ?_⟩
    have nq5 : ¬ lsN 12400 1544 q := fun z => by
      by_cases ej : j = nv
      · rw [ej, a6] at hq
        have := Option.some.inj hq
        unfold lsN at z
        unfold qX at this
        omega
      · rw [a5 j j0 (by omega)] at hq
        have hj := (hV.2.2 j.toNat (by omega)).1
        rw [show ((j.toNat : Nat) : Int) = j by omega] at hj
        have l0 : 12300 < ldn 12300 l3 → True := fun _ => trivial
        have hp9 : P9 (ldn 12300 l3) = P (ldn 12300 l3) := p9o _ (by unfold ldn; split <;> omega) (by unfold ldn; split <;> omega)
        rw [hp9, hj] at hq
        have := Option.some.inj hq
        unfold lsN at z
        unfold qX at this
        have := (hv0 j.toNat (by omega)).2
        rw [show ((j.toNat : Nat) : Int) = j by omega] at this
        omega
    exact (o3Z q nq5).1.trans hzx)
  have hv2 := hV.1.1.2.2.1
  have hv3 := hV.1.2.2.2.1
  have finZ : ViwQ K P J I S nv y (.inl (some (vI (nv : Int)))) K3 P3 J I3 := by
    refine ⟨rfl, rfl, l3', l4', wZ, MZ, ⟨⟨LA, b1⟩, by omega, fun j hj => ?_⟩, ev3, ⟨⟨nZ, LZ, f1Z, f2Z, g5Z, g6⟩, rxZ⟩, fun j j0 j1 b hb => ?_, ⟨fun j i j0 j1 => ?_, fun j i j0 j1 => b9 j i j0 j1⟩, outZ⟩
    · by_cases ej : j = nv
      · subst ej
        refine ⟨?_, b6, ?_⟩
        · rw [v8, (o3Z _ (by unfold lsN ldn; split <;> omega)).2.1]
          exact a6
        · exact ⟨(o3Z _ (by unfold lsN; omega)).1.trans k2x, by rw [(o3Z (vX j) (by unfold lsN; omega)).2.1, (o2 (vX j) (by unfold lsN; omega)).2.1]; exact hW2.2.1, (o3Z _ (by unfold lsN; omega)).1.trans ((o2 _ (by unfold lsN; omega)).1.trans k1y)⟩
      · have hj2 : j < nv := by omega
        obtain ⟨h1, h2, h3⟩ := hV.2.2 j hj2
        refine ⟨?_, ?_, ?_⟩
        · rw [v9 j hj2, (o3Z _ (by unfold lsN ldn; split <;> omega)).2.1, a5 j (by omega) (by omega), p9o _ (by unfold ldn; split <;> omega) (by unfold ldn; split <;> omega)]
          exact h1
        · rw [b5 j (by omega) (by omega), (o2 _ (by unfold lsN ldn; split <;> omega)).2.1, p9o _ (by unfold ldn; split <;> omega) (by unfold ldn; split <;> omega)]
          exact h2
        · have oo : ∀ b, b < 2 → K3 (vX j + b) = K (vX j + b) ∧ P3 (vX j + b) = P (vX j + b) ∧ I3 (vX j + b) = I (vX j + b) := fun b hb => outZ _ (by unfold nEv vX; omega) (by unfold vX; omega) (by unfold vX; omega) (by unfold lsN vX; omega) (by unfold lsN vX; omega)
          have o0Z := oo 0 (by decide)
          have o1 := oo 1 (by decide)
          exact ⟨o0Z.1.trans h3.1, by rw [show P3 (vX j) = P (vX j) from o0Z.2.1]; exact h3.2.1, o1.1.trans h3.2.2⟩
    · obtain ⟨u1Z, -, u3⟩ := outZ (vX j + b) (by unfold nEv vX; omega) (by unfold vX; omega) (by unfold vX; omega) (by unfold lsN vX; omega) (by unfold lsN vX; omega)
      rw [u1Z, u3]
      exact hK j (by omega) j1 b hb
    · rw [(o3Z _ (by unfold lsN; omega)).2.1]; exact a9 j i j0 j1
  clear LA outZ v8 v9
  refine VW.cV (ci := 5) (T := T5) (N := 3) (pc' := 75) d_F_view_72 rfl mv_Relation_copyFrom lk_F_278 rfl (by first | exact hC.k 0 rfl | exact hC.k 54 rfl | exact hC.k 55 rfl | exact hQ.k | exact k00 | exact C1Z.k 0 rfl | exact C1Z.k 26 rfl | exact C1Z.k 9 rfl | exact hW2.1 | exact k2o | exact k3o | exact k244 | exact k312 | exact LV3.1.1 | exact C2Z.k 0 rfl | exact k1x) rfl rfl rfl (by decide) (by decide) (spK) rfl rfl ?_
  refine VW.aload_n (pc' := 76) d_F_view_75 rfl rfl ?_
  refine VW.gP (ci := 10) (T := T10) (N := 11) (k := 5) (k' := 5) (pc' := 79) d_F_view_76 rfl lk_F_46 in10 rfl rfl rfl rfl (by first | exact hC.k 0 rfl | exact hC.k 54 rfl | exact hC.k 55 rfl | exact hQ.k | exact k00 | exact C1Z.k 0 rfl | exact C1Z.k 26 rfl | exact C1Z.k 9 rfl | exact hW2.1 | exact k2o | exact k3o | exact k244 | exact k312 | exact LV3.1.1 | exact C2Z.k 0 rfl | exact k1x) (by first | exact pA | exact pB | exact hC.p 4 rfl | exact hC.p 5 rfl | exact C1Z.p 2 rfl | exact C1Z.p 1 rfl | exact C1Z.p 16 rfl | exact C2Z.p 5 rfl | rfl) ?_
  refine VW.aload_n (pc' := 80) d_F_view_79 rfl rfl ?_
  refine VW.cV (ci := 12) (T := T12) (N := 3) (pc' := 83) d_F_view_80 rfl mv_java_util_ArrayList_add lk_F_263 rfl (by first | exact hC.k 0 rfl | exact hC.k 54 rfl | exact hC.k 55 rfl | exact hQ.k | exact k00 | exact C1Z.k 0 rfl | exact C1Z.k 26 rfl | exact C1Z.k 9 rfl | exact hW2.1 | exact k2o | exact k3o | exact k244 | exact k312 | exact LV3.1.1 | exact C2Z.k 0 rfl | exact k1x) rfl rfl rfl (by exact (show 0 + 1 + 1 + c3Z ≤ 24 by omega)) (by exact (show 0 + 3 + 5120 + n3Z ≤ 8400 by omega)) (spA) rfl rfl ?_
  refine VW.pop (pc' := 84) d_F_view_83 rfl rfl ?_
  refine VW.aload_n (pc' := 85) d_F_view_84 rfl rfl ?_
  refine VW.gP (ci := 10) (T := T10) (N := 11) (k := 6) (k' := 6) (pc' := 88) d_F_view_85 rfl lk_F_49 in10 rfl rfl rfl rfl (by first | exact hC.k 0 rfl | exact hC.k 54 rfl | exact hC.k 55 rfl | exact hQ.k | exact k00 | exact C1Z.k 0 rfl | exact C1Z.k 26 rfl | exact C1Z.k 9 rfl | exact hW2.1 | exact k2o | exact k3o | exact k244 | exact k312 | exact LV3.1.1 | exact C2Z.k 0 rfl | exact k1x) (by first | exact pA | exact pB | exact hC.p 4 rfl | exact hC.p 5 rfl | exact C1Z.p 2 rfl | exact C1Z.p 1 rfl | exact C1Z.p 16 rfl | exact C2Z.p 5 rfl | rfl) ?_
  refine VW.aload_n (pc' := 89) d_F_view_88 rfl rfl ?_
  refine VW.cV (ci := 12) (T := T12) (N := 3) (pc' := 92) d_F_view_89 rfl mv_java_util_ArrayList_add lk_F_263 rfl (by first | exact hC.k 0 rfl | exact hC.k 54 rfl | exact hC.k 55 rfl | exact hQ.k | exact k00 | exact C1Z.k 0 rfl | exact C1Z.k 26 rfl | exact C1Z.k 9 rfl | exact hW2.1 | exact k2o | exact k3o | exact k244 | exact k312 | exact LV3.1.1 | exact C2Z.k 0 rfl | exact k1x) rfl rfl rfl (by exact (show 0 + 1 + 1 + c3Z + c4Z ≤ 24 by omega)) (by exact (show 0 + 3 + 5120 + n3Z + n4Z ≤ 8400 by omega)) (spB) rfl rfl ?_
  refine VW.pop (pc' := 93) d_F_view_92 rfl rfl ?_
  refine VW.aload_n (pc' := 94) d_F_view_93 rfl rfl ?_
  refine VW.gP (ci := 10) (T := T10) (N := 11) (k := 5) (k' := 5) (pc' := 97) d_F_view_94 rfl lk_F_46 in10 rfl rfl rfl rfl (by first | exact hC.k 0 rfl | exact hC.k 54 rfl | exact hC.k 55 rfl | exact hQ.k | exact k00 | exact C1Z.k 0 rfl | exact C1Z.k 26 rfl | exact C1Z.k 9 rfl | exact hW2.1 | exact k2o | exact k3o | exact k244 | exact k312 | exact LV3.1.1 | exact C2Z.k 0 rfl | exact k1x) (by first | exact pA | exact pB | exact hC.p 4 rfl | exact hC.p 5 rfl | exact C1Z.p 2 rfl | exact C1Z.p 1 rfl | exact C1Z.p 16 rfl | exact C2Z.p 5 rfl | rfl) ?_
  refine VW.cV (ci := 12) (T := T12) (N := 3) (pc' := 100) d_F_view_97 rfl mv_java_util_ArrayList_size lk_F_147 rfl (by first | exact hC.k 0 rfl | exact hC.k 54 rfl | exact hC.k 55 rfl | exact hQ.k | exact k00 | exact C1Z.k 0 rfl | exact C1Z.k 26 rfl | exact C1Z.k 9 rfl | exact hW2.1 | exact k2o | exact k3o | exact k244 | exact k312 | exact LV3.1.1 | exact C2Z.k 0 rfl | exact k1x) rfl rfl rfl (by exact (show 0 + 1 + 1 + c3Z + c4Z ≤ 24 by omega)) (by exact (show 0 + 3 + 5120 + n3Z + n4Z ≤ 8400 by omega)) (spZ3) rfl rfl ?_
  refine VW.iconst (pc' := 101) d_F_view_100 rfl (by decide) ?_
  refine VW.isub (pc' := 102) d_F_view_101 rfl (by omega) ?_
  exact VW.iret d_F_view_102 rfl rfl (by exact (show 0 + 1 + 1 + c3Z + c4Z ≤ 24 by omega)) (by exact (show 0 + 3 + 5120 + n3Z + n4Z ≤ 8400 by omega)) (by rw [show ((nv + 1 : Nat) : Int) - 1 = (nv : Int) by omega]; exact ⟨finZ, C3Z⟩)
end
