/-! the law from its first instruction -/
theorem df10 : ∀ k, k < 11 → defaultValue (ty10 k) = if isP 10 k then .null else .int 0 := by
  intro k hk
  match k, hk with
  | 0, _ => rfl
  | 1, _ => rfl
  | 2, _ => rfl
  | 3, _ => rfl
  | 4, _ => rfl
  | 5, _ => rfl
  | 6, _ => rfl
  | 7, _ => rfl
  | 8, _ => rfl
  | 9, _ => rfl
  | 10, _ => rfl
  | k + 11, h => exact absurd h (by omega)
theorem df11 : ∀ k, k < 94 → defaultValue (ty11 k) = if isP 11 k then .null else .int 0 := by
  intro k hk
  match k, hk with
  | 0, _ => rfl
  | 1, _ => rfl
  | 2, _ => rfl
  | 3, _ => rfl
  | 4, _ => rfl
  | 5, _ => rfl
  | 6, _ => rfl
  | 7, _ => rfl
  | 8, _ => rfl
  | 9, _ => rfl
  | 10, _ => rfl
  | 11, _ => rfl
  | 12, _ => rfl
  | 13, _ => rfl
  | 14, _ => rfl
  | 15, _ => rfl
  | 16, _ => rfl
  | 17, _ => rfl
  | 18, _ => rfl
  | 19, _ => rfl
  | 20, _ => rfl
  | 21, _ => rfl
  | 22, _ => rfl
  | 23, _ => rfl
  | 24, _ => rfl
  | 25, _ => rfl
  | 26, _ => rfl
  | 27, _ => rfl
  | 28, _ => rfl
  | 29, _ => rfl
  | 30, _ => rfl
  | 31, _ => rfl
  | 32, _ => rfl
  | 33, _ => rfl
  | 34, _ => rfl
  | 35, _ => rfl
  | 36, _ => rfl
  | 37, _ => rfl
  | 38, _ => rfl
  | 39, _ => rfl
  | 40, _ => rfl
  | 41, _ => rfl
  | 42, _ => rfl
  | 43, _ => rfl
  | 44, _ => rfl
  | 45, _ => rfl
  | 46, _ => rfl
  | 47, _ => rfl
  | 48, _ => rfl
  | 49, _ => rfl
  | 50, _ => rfl
  | 51, _ => rfl
  | 52, _ => rfl
  | 53, _ => rfl
  | 54, _ => rfl
  | 55, _ => rfl
  | 56, _ => rfl
  | 57, _ => rfl
  | 58, _ => rfl
  | 59, _ => rfl
  | 60, _ => rfl
  | 61, _ => rfl
  | 62, _ => rfl
  | 63, _ => rfl
  | 64, _ => rfl
  | 65, _ => rfl
  | 66, _ => rfl
  | 67, _ => rfl
  | 68, _ => rfl
  | 69, _ => rfl
  | 70, _ => rfl
  | 71, _ => rfl
  | 72, _ => rfl
  | 73, _ => rfl
  | 74, _ => rfl
  | 75, _ => rfl
  | 76, _ => rfl
  | 77, _ => rfl
  | 78, _ => rfl
  | 79, _ => rfl
  | 80, _ => rfl
  | 81, _ => rfl
  | 82, _ => rfl
  | 83, _ => rfl
  | 84, _ => rfl
  | 85, _ => rfl
  | 86, _ => rfl
  | 87, _ => rfl
  | 88, _ => rfl
  | 89, _ => rfl
  | 90, _ => rfl
  | 91, _ => rfl
  | 92, _ => rfl
  | 93, _ => rfl
  | k + 94, h => exact absurd h (by omega)
section
variable {M : MD} {x : Bool} {R : Room} {Q : PE} {K : KT} {P : PT} {J I : IT} {cs n pc pc' : Nat} {L : List (Nat × AV)} {S : List AV}
theorem VE.new (o : Nat) {C : String} {T : u_T} {N ci j : Nat} {ty : Nat → FieldType} (d : decode M.2.1 pc = .ok (.new j, 3)) (hp : pc + 3 = pc') (hlk : Cond.classLink M.1.cls j C ∈ TB) (hins : Cond.instantiable C N ∈ TB) (hini : Cond.initialized C ∈ TB) (hin : ∀ w ∈ u_ws C T N, w ∈ TB) (hty : ∀ k, k < N → parseFieldDescriptor (T k).2.2.1 = some (ty k))
    (hc : classes[ci]? = some (C, T, N)) (hdef : ∀ k, k < N → defaultValue (ty k) = if isP ci k then .null else .int 0) (ho : K o = none) (hcs : cs + 1 ≤ R.cells) (hn : n + N ≤ R.slots) (kk : VE M x R Q (upK K o (ci, 0)) P J I (cs + 1) (n + N) pc' L (vR (some o) :: S)) : VE M x R Q K P J I cs n pc L S := by
  subst hp
  intro p l e s m args below meth c D ad0 ad K0 dom H locs ls X hl
  obtain ⟨x1, x2, x3, x4, x5, x6, x7, x8, x9⟩ := X
  have hdf : ∀ k, k < N → defaultValue (ty k) = vp_V ((List.range N).map (fun k => if isP ci k then va_rf ((P o (k : Int)).map ad) else .int (Int32.ofInt (I o (k : Int))))) k := fun k hk => by
    unfold vp_V
    rw [List.getD_eq_getElem?_getD, rg_at _ hk, hdef k hk]
    show _ = (if isP ci k then va_rf ((P o (k : Int)).map ad) else .int (Int32.ofInt (I o (k : Int))))
    rw [(x4.2.2.2 o ho).1, (x4.2.2.2 o ho).2.2]; rfl
  refine va_new x1.1 x1.2.1 x1.2.2.2.2.2.1 hin ty hty x1.2.2.2.2.1 (x1.2.2.2.2.2.1 _ hlk) (x1.2.2.2.2.2.1 _ hins) (x1.2.2.2.2.2.1 _ hini) x2 x7.2.2.1 x7.2.2.2 x8 (fun q h => AF.new h) hc hdf hcs hn d (fun q H1 hP hD hS => ?_)
  have hR := x7.new (hA := x3.nA) (h14 := by have u := (kn hc).2; show Nat.beq ci 14 = false; exact Bool.eq_false_iff.mpr (fun z => by have w := Nat.eq_of_beq_eq_true z; omega)) x4 (kd := (ci, 0)) (a := q) ho (by
    rw [ce_obj (kn hc).2, (kn hc).1]
    congr 2
    apply List.map_congr_left
    intro k _
    rw [(x4.2.2.2 o ho).2.2]; rfl) hP hD
  have hl' : lv_has ls M.2.2.1 (cl (fun z => if z = o then q else ad z) L) := by rw [cl_new ho x6]; exact hl
  have k2 := kk p l e s m args below meth c D ad0 (fun z => if z = o then q else ad z) K0 (dom ++ [o]) H1 locs ls ⟨x1, x2, x3, x4.new, WFs.cons (fun z hz => by cases hz; rw [upK_eq]; rfl) (fun v hv => (x5 v hv).new), fun v hv => (x6 v hv).new, hR, hS, x9.new ho⟩ hl'
  have es : (vR (some o) :: S).map (cv (fun z => if z = o then q else ad z)) = .ref q :: S.map (cv ad) := by
    rw [List.map_cons, cs_new ho x5]
    show va_rf (some (if o = o then q else ad o)) :: _ = _
    rw [if_pos rfl]; rfl
  rw [es] at k2
  exact k2
theorem VE.newJ (o : Nat) {N : Nat} {z : Int} (d : decode M.2.1 pc = .ok (.newarray .long, 2)) (hp : pc + 2 = pc') (har : Cond.arrayClass .long ∈ TB) (hz : z = (N : Int)) (hN : N ≤ 60000000) (ho : K o = none) (hcs : cs + 1 ≤ R.cells) (hn : n + N ≤ R.slots) (kk : VE M x R Q (upK K o (102, N)) P J I (cs + 1) (n + N) pc' L (vR (some o) :: S)) : VE M x R Q K P J I cs n pc L (vI z :: S) := by
  subst hp
  subst hz
  intro p l e s m args below meth c D ad0 ad K0 dom H locs ls X hl
  obtain ⟨x1, x2, x3, x4, x5, x6, x7, x8, x9⟩ := X
  have wz : inR (N : Int) := x5.hd
  refine va_newa (atype := .long) (ty := .long) (a0 := (N, .inr (.inl (fun _ => 0)))) (N' := N) x1.1 x1.2.1 (x1.2.2.2.2.2.1 _ har) rfl x2 x7.2.2.1 x7.2.2.2 x8 (fun q h => AF.new h) (fun cA => rfl) (by rw [i32_zero, i32_lt wz inR0]; omega) (by rw [i32_nat wz]; omega) (nbytes hN (by decide)) hcs hn d (fun q cA H1 hK1 hP hD hS => ?_)
  have hcA : cA = D.2.2.1 2 := by
    have q1 := (hK1.2 5 (cA, .long) rfl).2
    have q2 := (x2.2 2 (D.2.2.1 2, .long) rfl).2
    exact Option.some.inj ((show s.vm.findClass ("[" ++ (.long : FieldType).toString) = some cA from q1).symm.trans q2)
  subst hcA
  have hR := x7.new (hA := x3.nA) (h14 := rfl) x4 (kd := (102, N)) (a := q) ho (by
    rw [ce_J]
    simp only [(x4.2.2.2 o ho).2.1]; rfl) hP hD
  have hl' : lv_has ls M.2.2.1 (cl (fun z => if z = o then q else ad z) L) := by rw [cl_new ho x6]; exact hl
  have k2 := kk p l e s m args below meth c D ad0 (fun z => if z = o then q else ad z) K0 (dom ++ [o]) H1 locs ls ⟨x1, x2, x3, x4.new, WFs.cons (fun z hz => by cases hz; rw [upK_eq]; rfl) (fun v hv => (x5.tl v hv).new), fun v hv => (x6 v hv).new, hR, hS, x9.new ho⟩ hl'
  have es : (vR (some o) :: S).map (cv (fun z => if z = o then q else ad z)) = .ref q :: S.map (cv ad) := by
    rw [List.map_cons, cs_new ho x5.tl]
    show va_rf (some (if o = o then q else ad o)) :: _ = _
    rw [if_pos rfl]; rfl
  rw [es] at k2
  exact k2
end
section
variable {K : KT} {P : PT} {J I : IT} {Lg : Nat} {xs : Int → Int}
/-- the world at the entry: the shared empty array, the script -/
def Kz (Lg : Nat) : KT := fun o => if o = 49 then some (14, Lg) else if o = 999 then some (104, 0) else none
def Pz : PT := fun _ _ => none
def Jz : IT := fun _ _ => 0
def Iz (xs : Int → Int) : IT := fun o k => if o = 49 then xs k else 0
theorem kFm_o {q : Nat} (h : q ≤ 999 ∨ (2000 ≤ q ∧ q ≠ 12000 ∧ ¬ (10000 ≤ q ∧ q < 10032))) : kFm K P q = K q := by
  unfold kFm kF5
  exact (upK_o _ _ (by omega)).trans ((upK_o _ _ (by omega)).trans ((upK_o _ _ (by omega)).trans ((upK_o _ _ (by omega)).trans ((upK_o _ _ (by omega)).trans ((upK_o _ _ (by omega)).trans ((upK_o _ _ (by omega)).trans ((upK_o _ _ (by omega)).trans ((upK_o _ _ (by omega)).trans ((upK_o _ _ (by omega)).trans ((upK_o _ _ (by omega)).trans (kF4_o (by omega) (by omega))))))))))))
def Ka (Lg : Nat) : KT := kFm (upK (Kz Lg) 1000 (10, 0)) Pz
def Pa (Lg : Nat) : PT := pFm (upK (Kz Lg) 1000 (10, 0)) Pz
def Kb (Lg : Nat) : KT := upK (kK 94 (upK (Ka Lg) 100 (11, 0))) 50 (102, 1)
def Pb (Lg : Nat) : PT := pP 94 (Pa Lg)
def Ib (xs : Int → Int) : IT := filI (iFm (Iz xs)) 206 0 24 (-1)
theorem Kz_o {q : Nat} (h : q ≠ 49) (h2 : q ≠ 999) : Kz Lg q = none := by
  unfold Kz
  rw [if_neg h, if_neg h2]
theorem Ka_n {q : Nat} (h : q ≤ 998 ∨ (2000 ≤ q ∧ q ≠ 12000 ∧ ¬ (10000 ≤ q ∧ q < 10032))) (h2 : q ≠ 49) : Ka Lg q = none := by
  unfold Ka
  rw [kFm_o (by omega), upK_o _ _ (by omega)]
  exact Kz_o h2 (by omega)
theorem Ka_9 : Ka Lg 999 = some (104, 0) := by
  unfold Ka
  rw [kFm_o (by omega), upK_o _ _ (by omega)]
  rfl
theorem Ka_4 : Ka Lg 49 = some (14, Lg) := by
  unfold Ka
  rw [kFm_o (by omega), upK_o _ _ (by omega)]
  rfl
theorem Kb_a {q : Nat} (h : 999 ≤ q) : Kb Lg q = Ka Lg q := by
  unfold Kb
  rw [upK_o _ _ (by omega)]
  unfold kK
  rw [if_neg (by omega)]
  exact upK_o _ _ (by omega)
theorem Pb_a {q : Nat} {k : Int} (h : q ≠ 100) : Pb Lg q k = Pa Lg q k := by
  unfold Pb pP
  exact if_neg (fun z => h z.1)
theorem KM50 : KM 50 = none := rfl
theorem cnK_1 {o : Nat} (h : cnK o = true) : 1000 ≤ o := by
  have a : ∀ x ∈ KCL, 1000 ≤ x.1 := by decide
  obtain ⟨x, hx, e⟩ := List.any_eq_true.mp h
  have u := a x hx
  have w := Nat.eq_of_beq_eq_true e
  omega
theorem cnP_1 {o : Nat} (h : cnP o = true) : 1000 ≤ o := by
  have a : ∀ x ∈ PCL, 1000 ≤ x.1 := by decide
  obtain ⟨x, hx, e⟩ := List.any_eq_true.mp h
  have u := a x hx
  have w := Nat.eq_of_beq_eq_true e
  omega
theorem kz_0 : KZ (Kb Lg) (Pb Lg) := by
  have hC : ClW (Ka Lg) (Pa Lg) := ClW.made rfl
  refine ⟨hC.fr (fun o ho => Kb_a (by have := cnK_1 ho; omega)) (fun o ho => funext (fun k => Pb_a (by have := cnP_1 ho; omega))), (Kb_a (by decide)).trans Ka_9, fun o o0 o1 o2 o3 => (Kb_a (by omega)).trans (Ka_n (by omega) (by omega)), ⟨(Pb_a (by decide)).trans rfl, (Kb_a (by decide)).trans rfl⟩, ⟨(Pb_a (by decide)).trans rfl, (Pb_a (by decide)).trans rfl, (Pb_a (by decide)).trans rfl, (Pb_a (by decide)).trans rfl⟩, ⟨(Pb_a (by decide)).trans rfl, ?_⟩, (Pb_a (by decide)).trans rfl, (Pb_a (by decide)).trans rfl, (Pb_a (by decide)).trans rfl, (Pb_a (by decide)).trans rfl⟩
  exact ⟨(Kb_a (by decide)).trans rfl, (Pb_a (by decide)).trans rfl, (Pb_a (by decide)).trans rfl, (Pb_a (by decide)).trans rfl, (Pb_a (by decide)).trans rfl, (Pb_a (by decide)).trans rfl, (Pb_a (by decide)).trans rfl, (Pb_a (by decide)).trans rfl, (Kb_a (by decide)).trans rfl, (Kb_a (by decide)).trans rfl, (Kb_a (by decide)).trans rfl, (Kb_a (by decide)).trans rfl, (Kb_a (by decide)).trans rfl, (Kb_a (by decide)).trans rfl, (Kb_a (by decide)).trans rfl⟩
theorem ib_v {o : Nat} {k : Int} : Ib xs o k = if o = 206 ∧ 0 ≤ k ∧ k < 24 then -1 else if o = 1069 ∧ 0 ≤ k ∧ k < 12006 then -1 else if o = 1129 ∧ 0 ≤ k ∧ k < 192 then -2147483648 else if o = 1161 ∧ 0 ≤ k ∧ k < 192 then -2147483648 else if o = 1037 ∧ 0 ≤ k ∧ k < 24 then -1 else if o = 49 then xs k else 0 := by
  unfold Ib iFm iEngine iTrial filI up2 Iz
  dsimp only
  by_cases h1 : o = 206 ∧ 0 ≤ k ∧ k < 24
  · rw [if_pos h1, if_pos h1]
  rw [if_neg h1, if_neg h1]
  by_cases h2 : o = 1544 ∧ k = 0
  · rw [if_pos h2, if_neg (fun z => by omega), if_neg (fun z => by omega), if_neg (fun z => by omega), if_neg (fun z => by omega), if_neg (fun z => by omega)]
  rw [if_neg h2]
  by_cases h3 : o = 1512 ∧ k = 0
  · rw [if_pos h3, if_neg (fun z => by omega), if_neg (fun z => by omega), if_neg (fun z => by omega), if_neg (fun z => by omega), if_neg (fun z => by omega)]
  rw [if_neg h3]
  by_cases h4 : o = 1480 ∧ k = 0
  · rw [if_pos h4, if_neg (fun z => by omega), if_neg (fun z => by omega), if_neg (fun z => by omega), if_neg (fun z => by omega), if_neg (fun z => by omega)]
  rw [if_neg h4]
  by_cases h5 : o = 1069 ∧ 0 ≤ k ∧ k < 12006
  · rw [if_pos h5, if_pos h5]
  rw [if_neg h5, if_neg h5]
  by_cases h6 : o = 1129 ∧ 0 ≤ k ∧ k < 192
  · rw [if_pos h6, if_pos h6]
  rw [if_neg h6, if_neg h6]
  by_cases h7 : o = 1448 ∧ k = 0
  · rw [if_pos h7, if_neg (fun z => by omega), if_neg (fun z => by omega), if_neg (fun z => by omega)]
  rw [if_neg h7]
theorem iz_0 : IZ (Ib xs) := by
  refine ⟨fun o o0 o1 o2 o3 o4 k => ?_, fun k k0 k1 => ?_, fun k k0 k1 => ?_, fun k k0 k1 => ?_⟩
  · rw [ib_v, if_neg (fun z => by omega), if_neg (fun z => by omega), if_neg (fun z => by omega), if_neg (fun z => by omega), if_neg (fun z => by omega), if_neg (fun z => by omega)]
  · rw [ib_v, if_neg (fun z => by omega), if_neg (fun z => by omega), if_neg (fun z => by omega), if_neg (fun z => by omega), if_pos ⟨rfl, k0, k1⟩]
  · rw [ib_v, if_neg (fun z => by omega), if_neg (fun z => by omega), if_neg (fun z => by omega), if_pos ⟨rfl, k0, k1⟩]
  · rw [ib_v, if_neg (fun z => by omega), if_pos ⟨rfl, k0, k1⟩]
theorem sz_0 : SZr (mS (Ib xs)) := by
  have r206 : RefN 206 := Or.inr (Or.inr ⟨by decide, by decide⟩)
  refine ⟨fun o o0 k => ?_, fun k => ?_, fun k k0 k1 => ?_⟩
  · by_cases z : RefN o
    · rw [mS_y z]
      unfold RefN at z
      rw [ib_v, if_neg (fun z => by omega), if_neg (fun z => by omega), if_neg (fun z => by omega), if_neg (fun z => by omega), if_neg (fun z => by omega), if_neg (fun z => by omega)]
    · rw [mS_n z]
  · rw [mS_y r206, ib_v]
    by_cases z : 0 ≤ k ∧ k < 24
    · rw [if_pos ⟨rfl, z⟩]
      exact Or.inl rfl
    · rw [if_neg (fun u => z u.2), if_neg (fun z => by omega), if_neg (fun z => by omega), if_neg (fun z => by omega), if_neg (fun z => by omega), if_neg (fun z => by omega)]
      exact Or.inr rfl
  · rw [mS_y r206, ib_v, if_pos ⟨rfl, k0, k1⟩]
theorem Pa9 (k : Int) : Pa Lg 999 k = none := rfl
theorem PM_r : ∀ k, k < 94 → PM k = none ∨ PM k = some (200 + k) := by decide
/-- the law's own world at the loop's head -/
theorem lwk_0 (hw : WF (Ka Lg) (Pa Lg) Jz (iFm (Iz xs))) (hF : Fresh (upK (Ka Lg) 100 (11, 0)) (Pa Lg)) : LwK (Kb Lg) (Pb Lg) (Ib xs) Lg xs := by
  have m := mw_init hF
  refine ⟨⟨⟨fun o kd h => ?_, m.2⟩, fun k => (Pb_a (by decide)).trans (Pa9 k), fun o o0 o1 k => (Pb_a (by omega)).trans ((hw.2.2.2 o (Ka_n (by omega) (by omega))).2.2 k), fun k q hq => ?_⟩, (Kb_a (by decide)).trans Ka_9, upK_eq _ _ _, ?_, funext (fun k => by rw [ib_v, if_neg (fun z => by omega), if_neg (fun z => by omega), if_neg (fun z => by omega), if_neg (fun z => by omega), if_neg (fun z => by omega), if_pos rfl])⟩
  · unfold Kb
    rw [upK_o _ _ (fun z => by rw [z, KM50] at h; cases h)]
    exact m.1 o kd h
  · unfold Pb pP at hq
    by_cases z : (100 : Nat) = 100 ∧ 0 ≤ k ∧ k < (94 : Nat)
    · rw [if_pos z] at hq
      rcases PM_r k.toNat (by omega) with u | u
      · rw [u] at hq
        cases hq
      · rw [u] at hq
        cases hq
        exact Or.inr (Or.inr ⟨by omega, by omega⟩)
    · rw [if_neg z, (hw.2.2.2 100 (Ka_n (by omega) (by decide))).2.2 k] at hq
      cases hq
  · unfold Kb
    rw [upK_o _ _ (by decide)]
    unfold kK
    rw [if_neg (by omega), upK_o _ _ (by decide)]
    exact Ka_4
/-- the law, from its first instruction, comes to its end with true -/
theorem law_0 {Q : PE} (hLg : Lg ≤ 3072) (hQ : ∀ K P J I cs ns, LwK K P I Lg xs → (cs ≤ 603072 ∧ ns ≤ 7207018) → Q (.inl (some (vI 1))) K P J I cs ns) : VL Q (Kz Lg) Pz Jz (Iz xs) 0 0 0 [(0, vR (some 49))] [] := by
  refine VE.new 1000 (ci := 10) (T := T10) (N := 11) (ty := ty10) (pc' := 3) d_Law_law_0 rfl lk_Law_8 kw_instantiable_RowForge_11 kw_initialized_RowForge in10 tk10 rfl df10 rfl (by decide) (by decide) ?_
  refine VE.dup (pc' := 4) d_Law_law_3 rfl rfl ?_
  refine VE.cI (pc' := 7) d_Law_law_4 rfl mi_F_init lk_Law_150 rfl rfl rfl (by decide) (by decide) (sp_F_init (upK_eq _ _ _) (fun j j0 j1 => (upK_o _ _ (by omega)).trans (Kz_o (by omega) (by omega))) ((upK_o _ _ (by decide)).trans (Kz_o (by decide) (by decide))) (fun j hj => (upK_o _ _ (by omega)).trans (Kz_o (by omega) (by omega)))) rfl rfl ?_
  refine VE.astore_n (pc' := 8) d_Law_law_7 rfl rfl ?_
  refine VE.wf (fun hw => ?_)
  have hw1 : WF (Ka Lg) (Pa Lg) Jz (iFm (Iz xs)) := hw
  have hF : Fresh (upK (Ka Lg) 100 (11, 0)) (Pa Lg) := ⟨upK_eq _ _ _, fun o o0 o1 => (upK_o _ _ (by omega)).trans (Ka_n (by omega) (by omega)), fun k => (hw1.2.2.2 100 (Ka_n (by omega) (by decide))).2.2 k⟩
  refine VE.new 100 (ci := 11) (T := T11) (N := 94) (ty := ty11) (pc' := 11) d_Law_law_8 rfl lk_Law_151 kw_instantiable_RowForgeModel_94 kw_initialized_RowForgeModel in11 tk11 rfl df11 (Ka_n (Lg := Lg) (by omega) (by decide)) (by decide) (by decide) ?_
  refine VE.dup (pc' := 12) d_Law_law_11 rfl rfl ?_
  refine VE.cI (pc' := 15) d_Law_law_12 rfl mi_Model_init lk_Law_153 rfl rfl rfl (by decide) (by decide) (sp_Model_init hF) rfl rfl ?_
  refine VE.astore_n (pc' := 16) d_Law_law_15 rfl rfl ?_
  refine VE.iconst (pc' := 17) d_Law_law_16 rfl ⟨by decide, by decide⟩ ?_
  refine VE.newJ 50 (N := 1) (pc' := 19) d_Law_law_17 rfl kw_arrayClass_long rfl (by decide) ?_ (by decide) (by decide) ?_
  · show (if 200 ≤ 50 ∧ 50 < 200 + 94 then KM 50 else upK (Ka Lg) 100 (11, 0) 50) = none
    rw [if_neg (by decide), upK_o _ _ (by decide)]
    exact Ka_n (by omega) (by decide)
  refine VE.astore_n (pc' := 20) d_Law_law_19 rfl rfl ?_
  refine VE.iconst (pc' := 21) d_Law_law_20 rfl ⟨by decide, by decide⟩ ?_
  refine VE.istore (pc' := 23) d_Law_law_21 rfl rfl ?_
  refine VE.pick [0, 1, 2, 3, 4] ?_
  refine VE.wf (fun hw2 => ?_)
  have hw3 : WF (Kb Lg) (Pb Lg) Jz (Ib xs) := hw2
  exact law_loop (xs := xs) hLg hQ 600 0 0 (Kb Lg) (Pb Lg) Jz (Ib xs) _ _ (by omega) (by decide) (by decide) (by decide) ⟨by decide, by decide⟩ ⟨lwk_0 hw1 hF, lr_0 hw3 kz_0 iz_0 sz_0 (fun k => by rw [show rsI RefN Jz 287 = Jz 287 from rsF_y (Or.inr (Or.inr ⟨by decide, by decide⟩))]; rfl) (by decide) (by decide)⟩
end
