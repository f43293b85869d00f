section
variable {K : KT} {P : PT} {J I : IT}
/-- a list o that has its elements in the array d (n places) -/
def AlW (K : KT) (P : PT) (o d n : Nat) : Prop := K o = some (12, 0) ∧ P o 1 = some d ∧ K d = some (104, n)
theorem cpo_half {b o n N ci NN : Nat} {C : String} {T : u_T} {z : Int} (hb : K b = some (104, n)) (ho : K o = none) (hz : z = (N : Int)) (hn0 : 0 < n) (hN : n < N) (hN2 : N ≤ 60000000) (hc : classes[ci]? = some (C, T, NN)) (hca : (C, "java/lang/Object") ∈ NC) (hel : ∀ i q, 0 ≤ i → i < (n : Int) → P b i = some q → ∃ z, K q = some (ci, z)) : VW m_java_util_Arrays_copyOf_LjavalangObjectILjavalangClassLjavalangObject false ({ frames := 1, cells := 1, slots := N, locals := 60 } : Room) (ex (upK K o (104, N)) (cpyP P b 0 o 0 n) J I (.inl (some (vR (some o))))) K P J I 0 0 6 [(0, vR (some b)), (1, vI z)] [] := by
  have ne : b ≠ o := fun z => by rw [z, ho] at hb; cases hb
  have hb' : upK K o (104, N) b = some (104, n) := (upK_o _ _ ne).trans hb
  have ho' : upK K o (104, N) o = some (104, N) := upK_eq _ _ _
  have mn : (if z < (n : Int) then z else (n : Int)) = n := if_neg (by omega)
  have hel' : ∀ i : Int, 0 ≤ i → i < (n : Int) → ∀ q, P b (0 + i) = some q → ∃ z, upK K o (104, N) q = some (ci, z) := fun i _ _ q hq => by
    obtain ⟨z, hz⟩ := hel _ q (by omega) (by omega) hq
    exact ⟨z, (upK_o _ _ (fun e => by rw [e, ho] at hz; cases hz)).trans hz⟩
  refine VW.iload_n (pc' := 7) d_java_util_Arrays_copyOf_LjavalangObjectILjavalangClassLjavalangObject_6 rfl rfl ?_
  refine VW.newO o (N := N) (pc' := 10) d_java_util_Arrays_copyOf_LjavalangObjectILjavalangClassLjavalangObject_7 rfl lk_java_util_Arrays_2 hz hN2 ho (Nat.le_of_eq (Nat.zero_add _)) (Nat.le_of_eq (Nat.zero_add _)) ?_
  refine VW.goto (pc' := 24) d_java_util_Arrays_copyOf_LjavalangObjectILjavalangClassLjavalangObject_10 rfl ?_
  refine VW.astore_n (pc' := 25) d_java_util_Arrays_copyOf_LjavalangObjectILjavalangClassLjavalangObject_24 rfl rfl ?_
  refine VW.aload_n (pc' := 26) d_java_util_Arrays_copyOf_LjavalangObjectILjavalangClassLjavalangObject_25 rfl rfl ?_
  refine VW.iconst (pc' := 27) d_java_util_Arrays_copyOf_LjavalangObjectILjavalangClassLjavalangObject_26 rfl (by decide) ?_
  refine VW.aload_n (pc' := 28) d_java_util_Arrays_copyOf_LjavalangObjectILjavalangClassLjavalangObject_27 rfl rfl ?_
  refine VW.iconst (pc' := 29) d_java_util_Arrays_copyOf_LjavalangObjectILjavalangClassLjavalangObject_28 rfl (by decide) ?_
  refine VW.aload_n (pc' := 30) d_java_util_Arrays_copyOf_LjavalangObjectILjavalangClassLjavalangObject_29 rfl rfl ?_
  refine VW.alen (pc' := 31) d_java_util_Arrays_copyOf_LjavalangObjectILjavalangClassLjavalangObject_30 rfl (by first | exact hb' | exact hb) (by simp) (by omega) ?_
  refine VW.iload_n (pc' := 32) d_java_util_Arrays_copyOf_LjavalangObjectILjavalangClassLjavalangObject_31 rfl rfl ?_
  refine VW.mm (pc' := 35) false rfl d_java_util_Arrays_copyOf_LjavalangObjectILjavalangClassLjavalangObject_32 rfl lk_java_util_Arrays_304 rfl rfl (Nat.le_of_eq (Nat.zero_add _)) (Nat.le_of_eq (Nat.zero_add _)) ?_
  rw [if_neg (show ¬ false = true by decide), mn]
  refine VW.copyr (pc' := 38) (ci := ci) d_java_util_Arrays_copyOf_LjavalangObjectILjavalangClassLjavalangObject_35 rfl lk_java_util_Arrays_150 hb' ho' hc hca hn0 (by omega) (by omega) (by omega) (by omega) (by omega) (by omega) hel' rfl rfl ?_
  refine VW.aload_n (pc' := 39) d_java_util_Arrays_copyOf_LjavalangObjectILjavalangClassLjavalangObject_38 rfl rfl ?_
  exact VW.aret d_java_util_Arrays_copyOf_LjavalangObjectILjavalangClassLjavalangObject_39 rfl (by first | exact Or.inl ⟨_, rfl⟩ | exact Or.inr ⟨_, rfl⟩) (Nat.le_of_eq (Nat.zero_add _)) (Nat.le_of_eq (Nat.zero_add _)) ex_rf
theorem cpo_met {b o n N ci NN : Nat} {C : String} {T : u_T} {z : Int} (hb : K b = some (104, n)) (ho : K o = none) (hz : z = (N : Int)) (hn0 : 0 < n) (hN : n < N) (hN2 : N ≤ 60000000) (hc : classes[ci]? = some (C, T, NN)) (hca : (C, "java/lang/Object") ∈ NC) (hel : ∀ i q, 0 ≤ i → i < (n : Int) → P b i = some q → ∃ z, K q = some (ci, z)) (hwf : WF K P J I) {l : Launch} (hst : l.stackTraces = false) {D : GD} {ad : Nat → Nat} {dom : List Nat} {sz mi : Nat} :
    Met l m_java_util_Arrays_copyOf_LjavalangObjectILjavalangClassLjavalangObject.1 (wsM m_java_util_Arrays_copyOf_LjavalangObjectILjavalangClassLjavalangObject) ({ frames := 1, cells := 1, slots := N, locals := 60 } : Room) (fun v U => (v = #[.ref (ad b), .int (Int32.ofInt z), .ref mi] ∧ va_Mi "[Ljava/lang/Object;" mi U) ∧ PcM D ad dom K P J I [] sz #[] U) (QN (ex (upK K o (104, N)) (cpyP P b 0 o 0 n) J I (.inl (some (vR (some o))))) D ad K sz) 1 N (AF ad K sz) := by
  refine Met.ofW (cc := m_java_util_Arrays_copyOf_LjavalangObjectILjavalangClassLjavalangObject.2.1) (maxL := 4) (ret := m_java_util_Arrays_copyOf_LjavalangObjectILjavalangClassLjavalangObject.2.2.2.1) (ws' := TB) (by decide) rfl (fun p e s m args below meth c s₁ B hml hv => ?_)
  obtain ⟨⟨rfl, hmi⟩, -, hsz, hRep, hK, hZ, hNW, hEX⟩ := hv
  subst hsz
  have hts := atoms_spec (ws := wsM m_java_util_Arrays_copyOf_LjavalangObjectILjavalangClassLjavalangObject) B.pre
  have hl := lv_entry [Value.ref (ad b), .int (Int32.ofInt z), .ref mi] (n := 4) (show (3 : Nat) ≤ 4 by decide)
  rw [show (#[Value.ref (ad b), .int (Int32.ofInt z), .ref mi] : Array Value) = ([Value.ref (ad b), .int (Int32.ofInt z), .ref mi] : List Value).toArray from rfl, lg_entry_eq]
  have wz : inR z := by constructor <;> omega
  have X : CX m_java_util_Arrays_copyOf_LjavalangObjectILjavalangClassLjavalangObject false ({ frames := 1, cells := 1, slots := N, locals := 60 } : Room) p l s m ([Value.ref (ad b), .int (Int32.ofInt z), .ref mi] : List Value).toArray meth c D ad ad K dom s.heap [] K P J I [(0, vR (some b)), (1, vI z)] [] :=
    ⟨⟨B.exec, B.bytes, B.returns, hml, findClass_of_methodNamed B.named, fun w hw => hts w (List.mem_cons_of_mem _ hw), B.notSynchronized, fun e => ((name_of_methodNamed B.named B.method).1).trans e, hst, hNW, fun q => by cases q⟩, hK, hZ, hwf, (fun v hv => nomatch hv), (fun q hq => by
      simp only [List.mem_cons, List.not_mem_nil, or_false] at hq
      rcases hq with rfl | rfl
      · exact fun q hq => by cases hq; rw [hb]; rfl
      · exact wz), hRep, va_S.rf, fun o ho => ⟨ho, rfl⟩, hEX⟩
  have hl2 := lv_at hl 2 (i := 2) (v := .ref mi) rfl
  refine lv_aload_n X.1.1 X.1.2.1 d_java_util_Arrays_copyOf_LjavalangObjectILjavalangClassLjavalangObject_0 rfl hl2 ?_
  refine va_ldcM X.1.1 X.1.2.1 X.1.2.2.2.2.1 (X.1.2.2.2.2.2.1 _ lk_java_util_Arrays_110) hmi d_java_util_Arrays_copyOf_LjavalangObjectILjavalangClassLjavalangObject_1 ?_
  refine lv_acmp_ne (rx := some mi) (ry := some mi) X.1.1 X.1.2.1 d_java_util_Arrays_copyOf_LjavalangObjectILjavalangClassLjavalangObject_3 rfl (fun q => absurd rfl q) (fun _ => ?_)
  refine cpo_half hb ho hz hn0 hN hN2 hc hca hel p l e s m _ below meth c D ad ad K dom s.heap [] _ X ?_
  refine ⟨hl.1, hl.2.1, fun q hq => ?_⟩
  simp only [cl, List.map_cons, List.map_nil, List.mem_cons, List.not_mem_nil, or_false] at hq
  rcases hq with rfl | rfl
  · exact lv_at hl 0 rfl
  · exact lv_at hl 1 rfl
theorem VW.copyO {b o n N ci NN : Nat} {C : String} {T : u_T} {z : Int} {L : List (Nat × AV)} {Q : PQ} (hb : K b = some (104, n)) (ho : K o = none) (hz : z = (N : Int)) (hn0 : 0 < n) (hN : n < N) (hN2 : N ≤ 60000000) (hc : classes[ci]? = some (C, T, NN)) (hca : (C, "java/lang/Object") ∈ NC) (hel : ∀ i q, 0 ≤ i → i < (n : Int) → P b i = some q → ∃ z, K q = some (ci, z))
    (kk : VW m_java_util_Arrays_copyOf_LjavalangObjectILjavalangObject false ({ frames := 2, cells := 1, slots := N, locals := 100 } : Room) Q (upK K o (104, N)) (cpyP P b 0 o 0 n) J I 1 N 9 L [vR (some o)]) : VW m_java_util_Arrays_copyOf_LjavalangObjectILjavalangObject false ({ frames := 2, cells := 1, slots := N, locals := 100 } : Room) Q K P J I 0 0 3 L [vR (some b), vI z, vR (some b)] := by
  intro p l e s m args below meth c D ad0 ad K0 dom H locs ls X hl
  obtain ⟨mi, hmi⟩ := X.1.2.2.2.2.2.2.2.2.2.1.2.2.2.2.2.2
  have hts := X.1.2.2.2.2.2.1
  have hS := X.2.2.2.2.1
  obtain ⟨ib, -, hib⟩ := X.2.2.2.2.2.2.1.at hb (ik_o hn0)
  rw [ce_O] at hib
  have hRA := (X.2.1.2 4 (D.2.2.1 4, .object "java/lang/Object") rfl).2
  obtain ⟨k1, c1, -, -, -, q1⟩ := hRA
  have hr : ∃ cell : Cell, H[ad b]? = some cell ∧ cell.vm.isStatics = false ∧ s.vm.findClass "[Ljava/lang/Object;" = some cell.cls := ⟨_, X.2.2.2.2.2.2.1.2.2.1 ib _ hib, rfl, q1⟩
  refine va_getC (C := "[Ljava/lang/Object;") (mi := mi) X.1.1 X.1.2.1 (X.1.2.2.2.1.trans hl.1.symm) X.1.2.2.2.2.1 (hts _ lk_java_util_Arrays_86) (va_Nw.use rfl (X.1.2.2.2.2.2.2.2.2.2.1.2.2.1 _ (by decide))) (hts _ kw_selGC) (hts _ kw_insGC) (hts _ kw_natGC) hmi hr (show (1 : Nat) ≤ 2 by decide) (by
    show 1 + (Value.category (cv ad (vR (some b))) + 0) + 14 ≤ 100
    show 1 + (1 + 0) + 14 ≤ 100
    decide) d_java_util_Arrays_copyOf_LjavalangObjectILjavalangObject_3 ?_
  have hM := cpo_met hb ho hz hn0 hN hN2 hc hca hel X.2.2.2.1 (l := l) X.1.2.2.2.2.2.2.2.2.1 (J := J) (I := I) (D := D) (ad := ad) (dom := dom) (sz := H.size) (mi := mi)
  obtain ⟨⟨hm1, hm2, hm3, hm4, hm5⟩, hnp, hst⟩ := ms_java_util_Arrays_copyOf_LjavalangObjectILjavalangClassLjavalangObject
  have hrun := va_runS (R := ({ frames := 2, cells := 1, slots := N, locals := 100 } : Room)) (index := 300) (own := "java/util/Arrays") (rest := []) (As := [Value.ref (ad b), .int (Int32.ofInt z), .ref mi]) (g := F0 m 6 ls [.ref mi, .int (Int32.ofInt z), .ref (ad b)]) (locs := locs) (cells := 0) (slots := 0) (e := e) (below := below) (meth := meth)
    ⟨X.1.1, X.1.2.1, X.1.2.2.2.1, X.1.2.2.2.2.1, hts⟩ hM
    ⟨callB_of 3 hts (goodTB _ hm1 hm2) (wsM_eq hm2) rfl rfl (hts _ hm3) (hts _ lk_java_util_Arrays_300) ⟨hm4, hm5, hnp⟩ ⟨show (1 : Nat) + 1 ≤ 2 by decide, show 8 + (4 + 11) + 60 ≤ 100 by decide⟩, hts _ hst⟩
    ⟨fun a U g mk q => by
      obtain ⟨⟨q8, q9⟩, q0, q1, q2, q3, q4, q5, q6⟩ := q
      exact ⟨⟨q8, va_Mi.moved (u := U) (U := U.calling g mk a) (Vm.Alike.refl U.vm) q9⟩, q0, q1, q2, va_K.moved (u := U) (U := U.calling g mk a) (Vm.Alike.refl U.vm) q3, ZF.moved (u := U) (U := U.calling g mk a) (Vm.Alike.refl U.vm) q4, NW.same (s := U) (U := U.calling g mk a) rfl q5, q6⟩, fun U hU hW => ⟨⟨rfl, hmi.moved hW.alike⟩, X.pre (as := []) U hU hW⟩⟩ rfl rfl hl.1 rfl (lv_room (m := m) (pc := 6) (ls := ls) (rest := []) (cats ad [] rfl)) d_java_util_Arrays_copyOf_LjavalangObjectILjavalangObject_6 ⟨show 0 + 1 ≤ 1 by decide, Nat.le_of_eq (Nat.zero_add N)⟩
  have wn : WFs K [] := fun v hv => (List.not_mem_nil hv).elim
  refine (X.re (S' := []) wn X.2.2.2.2.2.1).back (S := []) hl wn hrun (fun r K' P' J' I' ad' dom' H1 locs1 hq CX' hl' => ?_)
  obtain ⟨h1, h2, h3, h4, h5⟩ := hq
  cases h1; subst h2; subst h3; subst h4; subst h5
  rw [Nat.zero_add, Nat.zero_add]
  exact kk p l e s m args below meth c D ad0 ad' K0 dom' H1 locs1 ls CX' hl'
theorem sp_copyO {b o n N ci NN : Nat} {C : String} {T : u_T} {z : Int} (hb : K b = some (104, n)) (ho : K o = none) (hz : z = (N : Int)) (hn0 : 0 < n) (hN : n < N) (hN2 : N ≤ 60000000) (hc : classes[ci]? = some (C, T, NN)) (hca : (C, "java/lang/Object") ∈ NC) (hel : ∀ i q, 0 ≤ i → i < (n : Int) → P b i = some q → ∃ z, K q = some (ci, z)) : Sp m_java_util_Arrays_copyOf_LjavalangObjectILjavalangObject false ({ frames := 2, cells := 1, slots := N, locals := 100 } : Room) (ex (upK K o (104, N)) (cpyP P b 0 o 0 n) J I (.inl (some (vR (some o))))) K P J I [vR (some b), vI z] := by
  refine Sp.ofV (by decide) (Or.inr rfl) rfl ?_
  have h9 : VW m_java_util_Arrays_copyOf_LjavalangObjectILjavalangObject false ({ frames := 2, cells := 1, slots := N, locals := 100 } : Room) (ex (upK K o (104, N)) (cpyP P b 0 o 0 n) J I (.inl (some (vR (some o))))) (upK K o (104, N)) (cpyP P b 0 o 0 n) J I 1 N 9 [(0, vR (some b)), (1, vI z)] [vR (some o)] := by
    exact VW.aret d_java_util_Arrays_copyOf_LjavalangObjectILjavalangObject_9 rfl (by first | exact Or.inl ⟨_, rfl⟩ | exact Or.inr ⟨_, rfl⟩) (Nat.le_refl _) (Nat.le_refl _) ex_rf
  refine VW.aload_n (pc' := 1) d_java_util_Arrays_copyOf_LjavalangObjectILjavalangObject_0 rfl rfl ?_
  refine VW.iload_n (pc' := 2) d_java_util_Arrays_copyOf_LjavalangObjectILjavalangObject_1 rfl rfl ?_
  refine VW.aload_n (pc' := 3) d_java_util_Arrays_copyOf_LjavalangObjectILjavalangObject_2 rfl rfl ?_
  refine VW.nrm ?_
  exact VW.copyO hb ho hz hn0 hN hN2 hc hca hel h9
end
