/-! RowForge.begin, where it may be called -/
section
variable {K : KT} {P : PT} {J I S : IT} {n N g lq i : Nat} {lv mv : Nat → Nat} {q x : Int}
theorem opN_eq (h : ER I S n N g lv mv q) : opN I n = opC S n := by
  unfold opC
  have : ∀ m : Nat, m ≤ n → opN I m = cntI (fun j => S 221 j < 2) m := by
    intro m
    induction m with
    | zero => intro _; rfl
    | succ m ih =>
      intro hm
      have t := (h.tx m (by omega)).1.2.2.2.1
      have p := (h.ph m (by omega)).1
      have e : bI (I (tX m) 4 = 0 ∨ I (tX m) 4 = 1) = bI (S 221 (m : Int) < 2) := bIc (by rw [t]; omega)
      show opN I m + bI (I (tX m) 4 = 0 ∨ I (tX m) 4 = 1) = cntI (fun j => S 221 j < 2) m + bI (S 221 (m : Int) < 2)
      rw [ih (by omega), e]
  exact this n (Nat.le_refl _)
theorem taken_eq (h : ER I S n N g lv mv q) : mTakenN S = opC S n := by
  have e1 : mTakenN S = cntI (fun j => S 226 j ≠ 0) 4 := by
    show 0 + bI (S 226 (0 + 1 + 1 + 1) ≠ 0) + bI (S 226 (0 + 1 + 1) ≠ 0) + bI (S 226 (0 + 1) ≠ 0) + bI (S 226 0 ≠ 0) = 0 + bI (S 226 ((0 : Nat) : Int) ≠ 0) + bI (S 226 ((1 : Nat) : Int) ≠ 0) + bI (S 226 ((2 : Nat) : Int) ≠ 0) + bI (S 226 ((3 : Nat) : Int) ≠ 0)
    rw [show (0 + 1 + 1 + 1 : Int) = ((3 : Nat) : Int) by decide, show (0 + 1 + 1 : Int) = ((2 : Nat) : Int) by decide, show (0 + 1 : Int) = ((1 : Nat) : Int) by decide, show (0 : Int) = ((0 : Nat) : Int) by decide]
    omega
  rw [e1]
  unfold opC
  rw [cntI_filter, cntI_filter]
  let L1 : List Nat := (List.range 4).filter (fun p : Nat => @decide (S 226 (p : Int) ≠ 0) (Classical.propDecidable _))
  let F2 : List Nat := (List.range n).filter (fun p : Nat => @decide (S 221 (p : Int) < 2) (Classical.propDecidable _))
  let L2 : List Nat := F2.map (fun p : Nat => (S 223 p).toNat)
  have m1 : ∀ p, p ∈ L1 ↔ p < 4 ∧ S 226 (p : Int) ≠ 0 := fun p => by
    rw [List.mem_filter, List.mem_range]
    exact ⟨fun z => ⟨z.1, @of_decide_eq_true _ (Classical.propDecidable _) z.2⟩, fun z => ⟨z.1, @decide_eq_true _ (Classical.propDecidable _) z.2⟩⟩
  have m2 : ∀ p, p ∈ F2 ↔ opS S n p := fun p => by
    rw [List.mem_filter, List.mem_range]
    exact ⟨fun z => ⟨z.1, @of_decide_eq_true _ (Classical.propDecidable _) z.2⟩, fun z => ⟨z.1, @decide_eq_true _ (Classical.propDecidable _) z.2⟩⟩
  have nd1 : L1.Nodup := List.Nodup.sublist List.filter_sublist List.nodup_range
  have nd2 : L2.Nodup := by
    refine nodup_map_on (fun a ha b hb e => ?_) (List.Nodup.sublist List.filter_sublist List.nodup_range)
    have e : (S 223 a).toNat = (S 223 b).toNat := e
    have pa := h.mb.pla a
    have pb := h.mb.pla b
    exact h.sl.1 a b ((m2 a).mp ha) ((m2 b).mp hb) (by omega)
  have pm : L1.Perm L2 := (List.perm_ext_iff_of_nodup nd1 nd2).mpr (fun p => by
    rw [m1, List.mem_map]
    constructor
    · rintro ⟨a, b⟩
      obtain ⟨j, hj, e⟩ := (h.sl.2 p (by omega) (by omega)).mp b
      exact ⟨j, (m2 j).mpr hj, by omega⟩
    · rintro ⟨j, hj, e⟩
      have pj := h.mb.pla j
      have e' : (S 223 j).toNat = p := e
      exact ⟨by omega, (h.sl.2 p (by omega) (by omega)).mpr ⟨j, (m2 j).mp hj, by omega⟩⟩)
  have len := pm.length_eq
  rw [List.length_map] at len
  show ((L1.length : Nat) : Int) = ((F2.length : Nat) : Int)
  omega
theorem begin_run (hB : CB K P I n N g lq lv mv) (hE : ER I S n N g lv mv q) (hx : 0 ≤ x ∧ x ≤ 3) (hf : mTakenN S ≠ 4) (hn : S 100 19 ≠ 60) (hq : 4 * (n : Int) ≤ q ∧ q + 4 ≤ 2048) (hz : S 233 n = 0 ∧ ∀ t, 0 ≤ t → t < 6 → S 236 (6 * (n : Int) + t) = 0) (hK : FreeT K I n) (hL : FreeL P 12100 lq) :
    ∃ (lq' c z : Nat) (K' : KT) (P' : PT) (I' : IT) (lv' mv' : Nat → Nat), CB K' P' I' (n + 1) N g lq' lv' mv' ∧ ER I' (mBegin S x) (n + 1) N g lv' mv' (q + 4) ∧ (∀ j, j < n → lv' j = lv j ∧ mv' j = mv j) ∧ (lv' n = 0 ∧ mv' n = 0) ∧ (c + lq = 7 + lq' ∧ z + pl lq = 240 + pl lq') ∧ (∀ o, ¬ nTx n o → o ≠ 1448 → ¬ (12100 < o ∧ o < 12120) → K' o = K o ∧ P' o = P o ∧ I' o = I o) ∧ FreeL P' 12100 lq' ∧
      Sp m_F_begin true ({ frames := 11, cells := c, slots := z, locals := 420 } : Room) (ex K' P' J I' (.inl (some (vI (n : Int))))) K P J I [vR (some 1000), vI x] := by
  have hC := hB.c
  have n60 := hB.e.2.1
  have h19 := hE.cnt.1
  have hn60 : n < 60 := by omega
  obtain ⟨lq', c, z, K', P', I', lv', mv', b1, b2, b3, b4, b5, b6, b7, sp⟩ := start_ex (J := J) (x := x) hB hn60 hK hL
  refine ⟨lq', c, z, K', P', I', lv', mv', b1, hE.begin hB.lev hB.g10 hn60 hf hq hz b2 b3, b3, b4, b5, b6, b7, ?_⟩
  have o4 := open4 hE
  have tk := taken_eq hE
  have oN := opN_eq hE
  have c4 : opN I n < 4 := by omega
  have spC := sp_Engine_countOpen (J := J) hC hB.e
  have spZ : Sp m_java_util_ArrayList_size false (rmv 0 0) (ex K P J I (.inl (some (vI (n : Int))))) K P J I [vR (some 1448)] := by
    have := sp_java_util_ArrayList_size (J := J) (I := I) (P := P) hB.e.al.1
    rw [hB.e.sz] at this
    exact this
  refine Sp.ofV (by decide) (Or.inl rfl) rfl ?_
  refine VW.iload_n (pc' := 1) d_F_begin_0 rfl rfl ?_
  refine VW.if_lt (tgt := 13) (pc' := 4) d_F_begin_1 rfl rfl (fun c1 => ?_) (fun c1 => ?_)
  case refine_1 => exact absurd c1 (by omega)
  refine VW.iload_n (pc' := 5) d_F_begin_4 rfl rfl ?_
  refine VW.iconst (pc' := 6) d_F_begin_5 rfl (by decide) ?_
  refine VW.icmp_ge (tgt := 13) (pc' := 9) d_F_begin_6 rfl rfl (fun c6 => ?_) (fun c6 => ?_)
  case refine_1 => exact absurd c6 (by omega)
  refine VW.iconst (pc' := 10) d_F_begin_9 rfl (by decide) ?_
  refine VW.goto (pc' := 14) d_F_begin_10 rfl ?_
  refine VW.callSX (pc' := 17) d_F_begin_14 rfl (sp_F_demandPlace1 (by decide)) rfl ms_F_demandPlace.1 ms_F_demandPlace.2.1 rfl ms_F_demandPlace.2.2 lk_F_97 rfl rfl rfl (by show 0 + 0 ≤ c; omega) (by show 0 + 0 ≤ z; omega) (fun _ _ _ _ _ hz => by cases hz.1) (fun r _ _ _ _ hz => ?_)
  obtain ⟨z1, z2, z3, z4, z5⟩ := hz
  cases z1
  replace z2 := z2.symm; replace z3 := z3.symm; replace z4 := z4.symm; replace z5 := z5.symm
  subst z2; subst z3; subst z4; subst z5
  refine VW.aload_n (pc' := 18) d_F_begin_17 rfl rfl ?_
  refine VW.gP (ci := 10) (T := T10) (N := 11) (k := 1) (k' := 1) (pc' := 21) d_F_begin_18 rfl lk_F_21 in10 rfl rfl rfl rfl (by first | exact hC.k 0 rfl | exact hC.k 9 rfl | exact hB.e.al.1) (by first | exact hC.p 1 rfl | exact hC.p 17 rfl | rfl) ?_
  refine VW.cV (ci := 0) (T := T0) (N := 8) (pc' := 24) d_F_begin_21 rfl mv_Engine_countOpen lk_F_141 rfl (by first | exact hC.k 0 rfl | exact hC.k 9 rfl | exact hB.e.al.1) rfl rfl rfl (by show 0 + 0 + 0 ≤ c; omega) (by show 0 + 0 + 0 ≤ z; omega) (spC) rfl rfl ?_
  refine VW.iconst (pc' := 25) d_F_begin_24 rfl (by decide) ?_
  refine VW.icmp_ge (tgt := 47) (pc' := 28) d_F_begin_25 rfl rfl (fun c25 => ?_) (fun c25 => ?_)
  case refine_1 => exact absurd c25 (by omega)
  refine VW.aload_n (pc' := 29) d_F_begin_28 rfl rfl ?_
  refine VW.gP (ci := 10) (T := T10) (N := 11) (k := 1) (k' := 1) (pc' := 32) d_F_begin_29 rfl lk_F_21 in10 rfl rfl rfl rfl (by first | exact hC.k 0 rfl | exact hC.k 9 rfl | exact hB.e.al.1) (by first | exact hC.p 1 rfl | exact hC.p 17 rfl | rfl) ?_
  refine VW.gP (ci := 0) (T := T0) (N := 8) (k := 2) (k' := 2) (pc' := 35) d_F_begin_32 rfl lk_F_144 in0 rfl rfl rfl rfl (by first | exact hC.k 0 rfl | exact hC.k 9 rfl | exact hB.e.al.1) (by first | exact hC.p 1 rfl | exact hC.p 17 rfl | rfl) ?_
  refine VW.cV (ci := 12) (T := T12) (N := 3) (pc' := 38) d_F_begin_35 rfl mv_java_util_ArrayList_size lk_F_147 rfl (by first | exact hC.k 0 rfl | exact hC.k 9 rfl | exact hB.e.al.1) rfl rfl rfl (by show 0 + 0 + 0 + 0 ≤ c; omega) (by show 0 + 0 + 0 + 0 ≤ z; omega) (spZ) rfl rfl ?_
  refine VW.bipush (pc' := 40) d_F_begin_38 rfl (by decide) ?_
  refine VW.icmp_ge (tgt := 47) (pc' := 43) d_F_begin_40 rfl rfl (fun c40 => ?_) (fun c40 => ?_)
  case refine_1 => exact absurd c40 (by omega)
  refine VW.iconst (pc' := 44) d_F_begin_43 rfl (by decide) ?_
  refine VW.goto (pc' := 48) d_F_begin_44 rfl ?_
  refine VW.callSX (pc' := 51) d_F_begin_48 rfl (sp_F_demandState1 (by decide)) rfl ms_F_demandState.1 ms_F_demandState.2.1 rfl ms_F_demandState.2.2 lk_F_82 rfl rfl rfl (by show 0 + 0 + 0 + 0 + 0 ≤ c; omega) (by show 0 + 0 + 0 + 0 + 0 ≤ z; omega) (fun _ _ _ _ _ hz => by cases hz.1) (fun r _ _ _ _ hz => ?_)
  obtain ⟨z1, z2, z3, z4, z5⟩ := hz
  cases z1
  replace z2 := z2.symm; replace z3 := z3.symm; replace z4 := z4.symm; replace z5 := z5.symm
  subst z2; subst z3; subst z4; subst z5
  refine VW.aload_n (pc' := 52) d_F_begin_51 rfl rfl ?_
  refine VW.gP (ci := 10) (T := T10) (N := 11) (k := 1) (k' := 1) (pc' := 55) d_F_begin_52 rfl lk_F_21 in10 rfl rfl rfl rfl (by first | exact hC.k 0 rfl | exact hC.k 9 rfl | exact hB.e.al.1) (by first | exact hC.p 1 rfl | exact hC.p 17 rfl | rfl) ?_
  refine VW.iload_n (pc' := 56) d_F_begin_55 rfl rfl ?_
  refine VW.cV (ci := 0) (T := T0) (N := 8) (pc' := 59) d_F_begin_56 rfl mv_Engine_start lk_F_150 rfl (by first | exact hC.k 0 rfl | exact hC.k 9 rfl | exact hB.e.al.1) rfl rfl rfl (by show 0 + 0 + 0 + 0 + 0 + c ≤ c; omega) (by show 0 + 0 + 0 + 0 + 0 + z ≤ z; omega) (sp) rfl rfl ?_
  exact VW.iret d_F_begin_59 rfl rfl (by show 0 + 0 + 0 + 0 + 0 + c ≤ c; omega) (by show 0 + 0 + 0 + 0 + 0 + z ≤ z; omega) ex_rf
end
