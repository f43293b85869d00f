/-! rows of references: stores into arrays of references, casts, arrays of references made, fields that a superclass declares -/
section Objs
variable {M : MD} {x : Bool} {R : Room} {Q : PQ} {K : KT} {P : PT} {J I : IT} {cs n pc pc' : Nat} {L : List (Nat × AV)} {S : List AV}
theorem up_refs {P : PT} {ad : Nat → Nat} {o : Nat} {z : Int} {v : Nat} (h0 : 0 ≤ z) : va_up (fun j : Nat => (P o (j : Int)).map ad) z.toNat (some (ad v)) = fun j : Nat => (up2 P o z (some v) o (j : Int)).map ad := by
  funext j
  unfold va_up
  by_cases hj : j = z.toNat
  · rw [if_pos hj, hj, show ((z.toNat : Nat) : Int) = z by omega, up2_eq]; rfl
  · rw [if_neg hj, up2_k _ o o _ (by omega)]
/-- a store into Object[] -/
theorem VW.astO {o v ci n0 N NN : Nat} {C : String} {T : u_T} {z : Int} (d : decode M.2.1 pc = .ok (.aastore, 1)) (hp : pc + 1 = pc') (ho : K o = some (104, N)) (hc : classes[ci]? = some (C, T, NN)) (hv : K v = some (ci, n0)) (hca : (C, "java/lang/Object") ∈ NC) (h0 : 0 ≤ z) (h1 : z < N) (kk : VW M x R Q K (up2 P o z (some v)) J I cs n pc' L S) : VW M x R Q K P J I cs n pc L (vR (some v) :: vI z :: vR (some o) :: S) := by
  subst hp
  intro p l e s m args below meth c D ad0 ad K0 dom H locs ls X hl
  obtain ⟨i, hdi, hi⟩ := X.2.2.2.2.2.2.1.at ho (ik_o (by omega))
  rw [ce_O] at hi
  obtain ⟨iv, -, hiv⟩ := X.2.2.2.2.2.2.1.at hv (ik_c (kn hc).2)
  rw [ce_obj (kn hc).2] at hiv
  have hko : (K o).isSome = true := by rw [ho]; rfl
  have hkv : (K v).isSome = true := by rw [hv]; rfl
  have wz : inR z := X.2.2.2.2.1.tl.hd
  have ez : (Int32.ofInt z).toNatClampNeg = z.toNat := i32_nat wz
  refine va_astqO X.1.1 X.1.2.1 X.2.1 X.2.2.2.2.2.2.1.2.2.1 X.2.2.2.2.2.2.1.2.2.2 X.2.2.2.2.2.2.2.1 i 4 iv ci (E := "java/lang/Object") hi rfl (X.1.2.2.2.2.2.2.2.2.2.1.2.1 _ hca) hiv hc (i32_in wz h0 h1) d (fun H1 locs1 hP hD hS => ?_)
  rw [ez, up_refs h0] at hP hD
  have hR := X.2.2.2.2.2.2.1.set (P' := up2 P o z (some v)) (J' := J) (I' := I) ho hdi (by rw [ce_O]) (fun _ _ _ => rfl) (fun _ _ _ => rfl) (fun o' ho' k' => up2_o P z k' (some v) ho') hP hD
  obtain ⟨x1, x2, x3, x4, x5, x6, x7, x8, x9⟩ := X
  exact kk p l e s m args below meth c D ad0 ad K0 dom H1 locs1 ls ⟨x1, x2, x3, x4.upP hko (fun q hq => by cases hq; exact hkv), x5.tl.tl.tl, x6, hR, hS, x9⟩ hl
/-- a store into Relation[] -/
theorem VW.astR {o v n0 N : Nat} {z : Int} (d : decode M.2.1 pc = .ok (.aastore, 1)) (hp : pc + 1 = pc') (ho : K o = some (103, N)) (hv : K v = some (5, n0)) (h0 : 0 ≤ z) (h1 : z < N) (kk : VW M x R Q K (up2 P o z (some v)) J I cs n pc' L S) : VW M x R Q K P J I cs n pc L (vR (some v) :: vI z :: vR (some o) :: S) := by
  subst hp
  intro p l e s m args below meth c D ad0 ad K0 dom H locs ls X hl
  obtain ⟨i, hdi, hi⟩ := X.2.2.2.2.2.2.1.at ho (ik_n rfl rfl)
  rw [ce_R] at hi
  obtain ⟨iv, -, hiv⟩ := X.2.2.2.2.2.2.1.at hv (ik_c (by decide))
  rw [ce_obj (by decide)] at hiv
  have hko : (K o).isSome = true := by rw [ho]; rfl
  have hkv : (K v).isSome = true := by rw [hv]; rfl
  have wz : inR z := X.2.2.2.2.1.tl.hd
  have ez : (Int32.ofInt z).toNatClampNeg = z.toNat := i32_nat wz
  refine va_astq X.1.1 X.1.2.1 X.2.1 X.2.2.2.2.2.2.1.2.2.1 X.2.2.2.2.2.2.1.2.2.2 X.2.2.2.2.2.2.2.1 i 3 iv 5 (r := (R5, T5, 3)) hi rfl hiv rfl (i32_in wz h0 h1) d (fun H1 locs1 hP hD hS => ?_)
  rw [ez, up_refs h0] at hP hD
  have hR := X.2.2.2.2.2.2.1.set (P' := up2 P o z (some v)) (J' := J) (I' := I) ho hdi (by rw [ce_R]) (fun _ _ _ => rfl) (fun _ _ _ => rfl) (fun o' ho' k' => up2_o P z k' (some v) ho') hP hD
  obtain ⟨x1, x2, x3, x4, x5, x6, x7, x8, x9⟩ := X
  exact kk p l e s m args below meth c D ad0 ad K0 dom H1 locs1 ls ⟨x1, x2, x3, x4.upP hko (fun q hq => by cases hq; exact hkv), x5.tl.tl.tl, x6, hR, hS, x9⟩ hl
/-- a cast of an object to its own class -/
theorem VW.cast {o ci n0 NN j : Nat} {C : String} {T : u_T} (d : decode M.2.1 pc = .ok (.checkcast j, 3)) (hp : pc + 3 = pc') (hlk : Cond.classLink M.1.cls j C ∈ TB) (hc : classes[ci]? = some (C, T, NN)) (ho : K o = some (ci, n0)) (kk : VW M x R Q K P J I cs n pc' L (vR (some o) :: S)) : VW M x R Q K P J I cs n pc L (vR (some o) :: S) := by
  subst hp
  intro p l e s m args below meth c D ad0 ad K0 dom H locs ls X hl
  obtain ⟨i, -, hi⟩ := X.2.2.2.2.2.2.1.at ho (ik_c (kn hc).2)
  rw [ce_obj (kn hc).2] at hi
  exact va_castS X.1.1 X.1.2.1 X.1.2.2.2.2.1 (X.1.2.2.2.2.2.1 _ hlk) (X.2.1.1 ci _ hc).2 (va_recv X.2.1 X.2.2.2.2.2.2.1.2.2.1 hc hi) d (kk p l e s m args below meth c D ad0 ad K0 dom H locs ls X hl)
/-- new Object[..] -/
theorem VW.newO (o : Nat) {N j : Nat} {z : Int} (d : decode M.2.1 pc = .ok (.anewarray j, 3)) (hp : pc + 3 = pc') (hlk : Cond.classLink M.1.cls j "java/lang/Object" ∈ TB) (hz : z = (N : Int)) (hN : N ≤ 60000000) (ho : K o = none) (hcs : cs + 1 ≤ R.cells) (hn : n + N ≤ R.slots) (kk : VW M x R Q (upK K o (104, N)) P J I (cs + 1) (n + N) pc' L (vR (some o) :: S)) : VW M x R Q K P J I cs n pc L (vI z :: S) := by
  subst hp
  subst hz
  intro p l e s m args below meth c D ad0 ad K0 dom H locs ls X hl
  obtain ⟨x1, x2, x3, x4, x5, x6, x7, x8, x9⟩ := X
  have wz : inR (N : Int) := x5.hd
  refine va_newq (N' := N) x1.1 x1.2.1 x1.2.2.2.2.1 (x1.2.2.2.2.2.1 _ hlk) x1.2.2.2.2.2.2.2.2.2.1.2.2.2.2.2.1 x2 x7.2.2.1 x7.2.2.2 x8 (fun q h => AF.new h) (by rw [i32_zero, i32_lt wz inR0]; omega) (by rw [i32_nat wz]; omega) (nbytes hN (by decide)) hcs hn d (fun q cA H1 hK1 hP hD hS => ?_)
  have hcA : cA = D.2.2.1 4 := by
    obtain ⟨k1, c1, -, -, -, q1⟩ := (hK1.2 5 (cA, .object "java/lang/Object") rfl).2
    obtain ⟨k2, c2, -, -, -, q2⟩ := (x2.2 4 (D.2.2.1 4, .object "java/lang/Object") rfl).2
    exact Option.some.inj (q1.symm.trans q2)
  subst hcA
  have hR := x7.new (hA := x3.nA) (h14 := rfl) x4 (kd := (104, N)) (a := q) ho (by
    rw [ce_O]
    simp only [(x4.2.2.2 o ho).2.2]; rfl) hP hD
  have hl' : lv_has ls M.2.2.1 (cl (fun z => if z = o then q else ad z) L) := by rw [cl_new ho x6]; exact hl
  have k2 := kk p l e s m args below meth c D ad0 (fun z => if z = o then q else ad z) K0 (dom ++ [o]) H1 locs ls ⟨x1, x2, x3, x4.new, WFs.cons (fun z hz => by cases hz; rw [upK_eq]; rfl) (fun v hv => (x5.tl v hv).new), fun v hv => (x6 v hv).new, hR, hS, x9.new ho⟩ hl'
  have es : (vR (some o) :: S).map (cv (fun z => if z = o then q else ad z)) = .ref q :: S.map (cv ad) := by
    rw [List.map_cons, cs_new ho x5.tl]
    show va_rf (some (if o = o then q else ad o)) :: _ = _
    rw [if_pos rfl]; rfl
  rw [es] at k2
  exact k2
/-- new Relation[..] -/
theorem VW.newRel (o : Nat) {N j : Nat} {z : Int} (d : decode M.2.1 pc = .ok (.anewarray j, 3)) (hp : pc + 3 = pc') (hlk : Cond.classLink M.1.cls j "RowForge$Relation" ∈ TB) (hz : z = (N : Int)) (hN : N ≤ 60000000) (ho : K o = none) (hcs : cs + 1 ≤ R.cells) (hn : n + N ≤ R.slots) (kk : VW M x R Q (upK K o (103, N)) P J I (cs + 1) (n + N) pc' L (vR (some o) :: S)) : VW M x R Q K P J I cs n pc L (vI z :: S) := by
  subst hp
  subst hz
  intro p l e s m args below meth c D ad0 ad K0 dom H locs ls X hl
  obtain ⟨x1, x2, x3, x4, x5, x6, x7, x8, x9⟩ := X
  have wz : inR (N : Int) := x5.hd
  refine va_newq (N' := N) x1.1 x1.2.1 x1.2.2.2.2.1 (x1.2.2.2.2.2.1 _ hlk) x1.2.2.2.2.2.2.2.2.2.1.2.2.2.2.1 x2 x7.2.2.1 x7.2.2.2 x8 (fun q h => AF.new h) (by rw [i32_zero, i32_lt wz inR0]; omega) (by rw [i32_nat wz]; omega) (nbytes hN (by decide)) hcs hn d (fun q cA H1 hK1 hP hD hS => ?_)
  have hcA : cA = D.2.2.1 3 := by
    obtain ⟨k1, c1, -, -, -, q1⟩ := (hK1.2 5 (cA, .object "RowForge$Relation") rfl).2
    obtain ⟨k2, c2, -, -, -, q2⟩ := (x2.2 3 (D.2.2.1 3, .object "RowForge$Relation") rfl).2
    exact Option.some.inj (q1.symm.trans q2)
  subst hcA
  have hR := x7.new (hA := x3.nA) (h14 := rfl) x4 (kd := (103, N)) (a := q) ho (by
    rw [ce_R]
    simp only [(x4.2.2.2 o ho).2.2]; rfl) hP hD
  have hl' : lv_has ls M.2.2.1 (cl (fun z => if z = o then q else ad z) L) := by rw [cl_new ho x6]; exact hl
  have k2 := kk p l e s m args below meth c D ad0 (fun z => if z = o then q else ad z) K0 (dom ++ [o]) H1 locs ls ⟨x1, x2, x3, x4.new, WFs.cons (fun z hz => by cases hz; rw [upK_eq]; rfl) (fun v hv => (x5.tl v hv).new), fun v hv => (x6 v hv).new, hR, hS, x9.new ho⟩ hl'
  have es : (vR (some o) :: S).map (cv (fun z => if z = o then q else ad z)) = .ref q :: S.map (cv ad) := by
    rw [List.map_cons, cs_new ho x5.tl]
    show va_rf (some (if o = o then q else ad o)) :: _ = _
    rw [if_pos rfl]; rfl
  rw [es] at k2
  exact k2
/-- an int field that a superclass declares -/
theorem VW.getIh {C ref : String} {T : u_T} {N ci k o n0 j : Nat} {z : Int} (d : decode M.2.1 pc = .ok (.getfield j, 3)) (hp : pc + 3 = pc') (hlk : Cond.fieldLink M.1.cls j ref (T k).2.1 (T k).2.2.1 ∈ TB) (hsf : Cond.sameField ref (T k).1 (T k).2.1 (T k).2.2.1 ∈ TB) (hin : ∀ w ∈ u_ws C T N, w ∈ TB) (hc : classes[ci]? = some (C, T, N)) (hk : Nat.ble (k + 1) N = true) (hr : isP ci k = false)
    (ho : K o = some (ci, n0)) (hv : I o (k : Int) = z) (kk : VW M x R Q K P J I cs n pc' L (vI z :: S)) : VW M x R Q K P J I cs n pc L (vR (some o) :: S) := by
  subst hp
  subst hv
  intro p l e s m args below meth c D ad0 ad K0 dom H locs ls X hl
  obtain ⟨i, -, hi⟩ := X.2.2.2.2.2.2.1.at ho (ik_c (kn hc).2)
  rw [ce_obj (kn hc).2, (kn hc).1] at hi
  have hk' := Nat.le_of_ble_eq_true hk
  refine va_get (k := k) (ref := ref) (v := cv ad (vI (I o (k : Int)))) X.1.1 X.1.2.1 X.1.2.2.2.2.2.1 hin X.1.2.2.2.2.1 X.2.1 X.2.2.2.2.2.2.1.2.2.1 i hi hc hk' (X.1.2.2.2.2.2.1 _ hlk) (fun q h => u_same (X.1.2.2.2.2.2.1 _ hsf) q h) ((rg_at _ hk').trans (by simp only [hr]; rfl)) d ?_
  exact kk p l e s m args below meth c D ad0 ad K0 dom H locs ls (X.re (WFs.cons (X.2.2.2.1.1 o k) X.2.2.2.2.1.tl) X.2.2.2.2.2.1) hl
theorem VW.putIh {C ref : String} {T : u_T} {N ci k o n0 j : Nat} {ty : Nat → FieldType} {z k' : Int} (d : decode M.2.1 pc = .ok (.putfield j, 3)) (hp : pc + 3 = pc') (hlk : Cond.fieldLink M.1.cls j ref (T k).2.1 (T k).2.2.1 ∈ TB) (hsf : Cond.sameField ref (T k).1 (T k).2.1 (T k).2.2.1 ∈ TB) (hin : ∀ w ∈ u_ws C T N, w ∈ TB) (hty : ∀ k, k < N → parseFieldDescriptor (T k).2.2.1 = some (ty k)) (hnm : ∀ a, a < N → ∀ b, b < N → a ≠ b → (T a).2.1 ≠ (T b).2.1)
    (hc : classes[ci]? = some (C, T, N)) (hk : Nat.ble (k + 1) N = true) (hr : isP ci k = false) (hk9 : (k : Int) = k') (hfin : (T k).2.2.2 = false) (ht : ty k = .int)
    (ho : K o = some (ci, n0)) (kk : VW M x R Q K P J (up2 I o k' z) cs n pc' L S) : VW M x R Q K P J I cs n pc L (vI z :: vR (some o) :: S) := by
  subst hp
  subst hk9
  intro p l e s m args below meth c D ad0 ad K0 dom H locs ls X hl
  obtain ⟨i, hdi, hi⟩ := X.2.2.2.2.2.2.1.at ho (ik_c (kn hc).2)
  have hi0 := hi
  rw [ce_obj (kn hc).2, (kn hc).1] at hi
  have hk' := Nat.le_of_ble_eq_true hk
  have hko : (K o).isSome = true := by rw [ho]; rfl
  have hfit : narrow (ty k) (cv ad (vI z)) = cv ad (vI z) ∧ fits (ty k) (cv ad (vI z)) = true := by
    rw [ht]; exact ⟨rfl, rfl⟩
  refine va_put (k := k) (ref := ref) (v := cv ad (vI z)) X.1.1 X.1.2.1 X.1.2.2.2.2.2.1 hin ty hty hnm X.1.2.2.2.2.1 X.2.1 X.2.2.2.2.2.2.1.2.2.1 X.2.2.2.2.2.2.1.2.2.2 X.2.2.2.2.2.2.2.1 i hi hc hk' (X.1.2.2.2.2.2.1 _ hlk) (fun q h => u_same (X.1.2.2.2.2.2.1 _ hsf) q h) hfin (hty k hk') hfit.1 hfit.2 (by rw [List.length_map, List.length_range]; exact hk') d (fun H1 locs1 hP hD hS => ?_)
  have e1 : ((List.range N).map (fun w => if isP ci w then va_rf ((P o (w : Int)).map ad) else .int (Int32.ofInt (I o (w : Int))))).set k (cv ad (vI z)) = (List.range N).map (fun w => if isP ci w then va_rf ((P o (w : Int)).map ad) else .int (Int32.ofInt ((up2 I o k z) o (w : Int)))) := by
    rw [← rg_set (k := k) (fun w => if isP ci w then va_rf ((P o (w : Int)).map ad) else .int (Int32.ofInt (I o (w : Int)))) (fun w => if isP ci w then va_rf ((P o (w : Int)).map ad) else .int (Int32.ofInt ((up2 I o k z) o (w : Int)))) hk' (fun j hj => by rw [up2_k I o o z (by omega)])]
    congr 1
    simp only [hr, up2_eq]; rfl
  rw [e1] at hP hD
  have hR := X.2.2.2.2.2.2.1.set (P' := P) (J' := J) (I' := up2 I o k z) ho hdi (by rw [ce_obj (kn hc).2, (kn hc).1]) (fun o' ho' k' => up2_o I k k' z ho') (fun _ _ _ => rfl) (fun _ _ _ => rfl) hP hD
  obtain ⟨x1, x2, x3, x4, x5, x6, x7, x8, x9⟩ := X
  exact kk p l e s m args below meth c D ad0 ad K0 dom H1 locs1 ls ⟨x1, x2, x3, x4.upI hko x5.hd, x5.tl.tl, x6, hR, hS, x9⟩ hl
/-- the shared empty array of lists -/
theorem VW.gets9 {j : Nat} (d : decode M.2.1 pc = .ok (.getstatic j, 3)) (hp : pc + 3 = pc') (hlk : Cond.fieldLink M.1.cls j "java/util/ArrayList" "DEFAULTCAPACITY_EMPTY_ELEMENTDATA" "[Ljava/lang/Object;" ∈ TB) (kk : VW M x R Q K P J I cs n pc' L (vR (some 999) :: S)) : VW M x R Q K P J I cs n pc L S := by
  subst hp
  intro p l e s m args below meth c D ad0 ad K0 dom H locs ls X hl
  have e9 := X.2.2.2.2.2.2.2.2.1 999 X.2.2.2.2.2.2.2.2.2.1
  have q := kk p l e s m args below meth c D ad0 ad K0 dom H locs ls (X.re (WFs.cons (fun q hq => by cases hq; exact e9.1) X.2.2.2.2.1) X.2.2.2.2.2.1) hl
  have ea : cv ad (vR (some 999)) = .ref D.2.2.2.1 := by
    show Value.ref (ad 999) = _
    rw [e9.2, X.2.2.2.2.2.2.2.2.2.2]
  rw [List.map_cons, ea] at q
  exact va_gets X.1.1 X.1.2.1 X.2.2.1.2.2.1 X.2.2.2.2.2.2.2.1 X.1.2.2.2.2.1 (X.1.2.2.2.2.2.1 _ hlk) (fun _ h => h) d q
theorem VW.acmp_eq {a b : Nat} {off : Int} {tgt : Nat} (d : decode M.2.1 pc = .ok (.if_acmp .eq off, 3)) (ht : (pc : Int) + off = (tgt : Int)) (hp : pc + 3 = pc') (kt : a = b → VW M x R Q K P J I cs n tgt L S) (kf : a ≠ b → VW M x R Q K P J I cs n pc' L S) : VW M x R Q K P J I cs n pc L (vR (some b) :: vR (some a) :: S) := by
  subst hp
  intro p l e s m args below meth c D ad0 ad K0 dom H locs ls X hl
  have hb : (K b).isSome = true := X.2.2.2.2.1.hd b rfl
  have ha : (K a).isSome = true := X.2.2.2.2.1.tl.hd a rfl
  have X' := X.re (S' := S) X.2.2.2.2.1.tl.tl X.2.2.2.2.2.1
  exact lv_acmp_eq (rx := some (ad a)) (ry := some (ad b)) X.1.1 X.1.2.1 d ht (fun q => kt (X.2.2.2.2.2.2.1.inj ha hb (Option.some.inj q)) p l e s m args below meth c D ad0 ad K0 dom H locs ls X' hl) (fun q => kf (fun z => q (by rw [z])) p l e s m args below meth c D ad0 ad K0 dom H locs ls X' hl)
theorem VW.dup_x1 {v w : AV} (d : decode M.2.1 pc = .ok (.dup_x1, 1)) (hp : pc + 1 = pc') (hv : isJ v = false) (hw : isJ w = false) (k : VW M x R Q K P J I cs n pc' L (v :: w :: v :: S)) : VW M x R Q K P J I cs n pc L (v :: w :: S) := by
  subst hp
  exact VW.go k (fun {_ _ _ _ _ _ _ _ _ _ _ ad _ _ _ _ _ _} X hl kk => lv_dup_x1 X.1.1 X.1.2.1 d (by have h := cv_cat ad v; rw [hv] at h; rcases v with z | r | z <;> first | rfl | (cases r <;> rfl) | cases hv) (by rcases w with z | r | z <;> first | rfl | (cases r <;> rfl) | cases hw) (kk _ (WFs.cons X.2.2.2.2.1.hd (WFs.cons X.2.2.2.2.1.tl.hd (WFs.cons X.2.2.2.2.1.hd X.2.2.2.2.1.tl.tl))) X.2.2.2.2.2.1 hl))
/-- references copied from array to array -/
def cpyP (P : PT) (b : Nat) (sp : Int) (a : Nat) (dp n : Int) : PT := fun o k => if o = a ∧ dp ≤ k ∧ k < dp + n then P b (sp + (k - dp)) else P o k
theorem VW.copyr {j a b n0 n1 ci NN : Nat} {C : String} {T : u_T} {sp dp k : Int} (d : decode M.2.1 pc = .ok (.invokestatic j, 3)) (hp : pc + 3 = pc') (hl : Cond.methodLink M.1.cls j arraycopyName ∈ TB) (hb : K b = some (104, n0)) (ha : K a = some (104, n1)) (hc : classes[ci]? = some (C, T, NN)) (hca : (C, "java/lang/Object") ∈ NC) (hn0 : 0 < n0) (hn1 : 0 < n1) (h1 : 0 ≤ sp) (h2 : 0 ≤ dp) (h3 : 0 ≤ k) (h4 : sp + k ≤ n0) (h5 : dp + k ≤ n1)
    (hel : ∀ i : Int, 0 ≤ i → i < k → ∀ q, P b (sp + i) = some q → ∃ z, K q = some (ci, z)) (hf : Nat.ble 1 R.frames = true) (hlo : Nat.ble (sl S + 18) R.locals = true)
    (kk : VW M x R Q K (cpyP P b sp a dp k) J I cs n pc' L S) : VW M x R Q K P J I cs n pc L (vI k :: vI dp :: vR (some a) :: vI sp :: vR (some b) :: S) := by
  subst hp
  intro p l e s m args below meth c D ad0 ad K0 dom H locs ls X hll
  have X0 := X
  obtain ⟨x1, x2, x3, x4, x5, x6, x7, x8, x9⟩ := X
  obtain ⟨ia, hda, hia⟩ := x7.at ha (ik_o hn1)
  obtain ⟨ib, hdb, hib⟩ := x7.at hb (ik_o hn0)
  rw [ce_O] at hia hib
  have hka : (K a).isSome = true := by rw [ha]; rfl
  have w1 : inR k := x5.hd
  have w2 : inR dp := x5.tl.hd
  have w3 : inR sp := x5.tl.tl.tl.hd
  have hts := x1.2.2.2.2.2.1
  have nn : ∀ z : Int, inR z → 0 ≤ z → ¬ Int32.ofInt z < 0 := fun z h h0 => by rw [i32_zero, i32_lt h inR0]; omega
  refine va_copyq (C := C) (E0 := "java/lang/Object") (E1 := "java/lang/Object") x1.1 x1.2.1 (x1.2.2.2.1.trans hll.1.symm) x1.2.2.2.2.1 (hts _ hl) (hts _ kw_native) (hts _ kw_acs) (hts _ kw_initialized_java_lang_System) x2 x7.2.2.1 x7.2.2.2 x8 ib ia 4 4 hib hia rfl rfl (nn _ w3 h1) (nn _ w2 h2) (nn _ w1 h3) (by rw [i32_nat w3, i32_nat w1]; omega) (by rw [i32_nat w2, i32_nat w1]; omega) ?_ ?_ (Nat.le_of_ble_eq_true hf) (by rw [cat_sum]; exact Nat.le_of_ble_eq_true hlo) d (fun H1 locs1 hP hD hS => ?_)
  · intro i hi y hy
    rw [i32_nat w1] at hi
    rw [i32_nat w3] at hy
    cases hq : P b ((sp.toNat + i : Nat) : Int) with
    | none => rw [hq] at hy; cases hy
    | some q =>
      rw [hq] at hy
      cases hy
      obtain ⟨z, hz⟩ := hel i (by omega) (by omega) q (by rw [show sp + (i : Int) = ((sp.toNat + i : Nat) : Int) by omega]; exact hq)
      obtain ⟨iq, -, hiq⟩ := x7.at hz (ik_c (kn hc).2)
      rw [ce_obj (kn hc).2] at hiq
      exact va_recv x2 x7.2.2.1 hc hiq
  · intro comp c0 f1 f2
    obtain ⟨c1, t1, g1, g2, g3⟩ := Cond.castable_spec (va_Nw.use (A := args) rfl (x1.2.2.2.2.2.2.2.2.2.1.2.1 _ hca))
    cases f2.symm.trans g1
    cases f1.symm.trans g2
    exact g3
  · rw [i32_nat w3, i32_nat w2, i32_nat w1] at hP hD
    have e1 : va_cpy (fun j : Nat => (P b (j : Int)).map ad) (fun j : Nat => (P a (j : Int)).map ad) sp.toNat dp.toNat k.toNat = fun j : Nat => (cpyP P b sp a dp k a (j : Int)).map ad := by
      funext j
      unfold va_cpy cpyP
      by_cases h : dp.toNat ≤ j ∧ j < dp.toNat + k.toNat
      · rw [if_pos h, if_pos ⟨rfl, by omega, by omega⟩]
        show (P b ((sp.toNat + (j - dp.toNat) : Nat) : Int)).map ad = _
        rw [show ((sp.toNat + (j - dp.toNat) : Nat) : Int) = sp + ((j : Int) - dp) by omega]
      · rw [if_neg h, if_neg (fun q => h ⟨by omega, by omega⟩)]
    rw [e1] at hP hD
    have hR := x7.set (P' := cpyP P b sp a dp k) (J' := J) (I' := I) ha hda (by rw [ce_O]) (fun _ _ _ => rfl) (fun _ _ _ => rfl) (fun o' ho' k' => if_neg (fun q => ho' q.1)) hP hD
    have hw : WF K (cpyP P b sp a dp k) J I := by
      refine ⟨x4.1, x4.2.1, fun o k' q hq => ?_, fun o ho => ⟨(x4.2.2.2 o ho).1, (x4.2.2.2 o ho).2.1, fun k' => ?_⟩⟩
      · unfold cpyP at hq
        split at hq
        · exact x4.2.2.1 _ _ q hq
        · exact x4.2.2.1 _ _ q hq
      · have : o ≠ a := fun z => by rw [z, ha] at ho; cases ho
        exact (if_neg (fun q => this q.1)).trans ((x4.2.2.2 o ho).2.2 k')
    exact kk p l e s m args below meth c D ad0 ad K0 dom H1 locs1 ls ⟨x1, x2, x3, hw, x5.tl.tl.tl.tl.tl, x6, hR, hS, x9⟩ hll
end Objs
