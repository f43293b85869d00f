theorem r32 {z : Int} (h : inR z) : (Int32.ofInt z).toInt = z := Int32.toInt_ofInt_of_le (by have := h.1; omega) (by have := h.2; omega)
theorem r64 {z : Int} (h : inJ z) : (Int64.ofInt z).toInt = z := Int64.toInt_ofInt_of_le (by have := h.1; omega) (by have := h.2; omega)
theorem i32_eq {a b : Int} (ha : inR a) (hb : inR b) : (Int32.ofInt a = Int32.ofInt b) ↔ a = b := ⟨fun h => by rw [← r32 ha, ← r32 hb, h], fun h => by rw [h]⟩
theorem i32_lt {a b : Int} (ha : inR a) (hb : inR b) : (Int32.ofInt a < Int32.ofInt b) ↔ a < b := by rw [Int32.lt_iff_toInt_lt, r32 ha, r32 hb]
theorem i32_le {a b : Int} (ha : inR a) (hb : inR b) : (Int32.ofInt a ≤ Int32.ofInt b) ↔ a ≤ b := by rw [Int32.le_iff_toInt_le, r32 ha, r32 hb]
theorem i32_zero : (0 : Int32) = Int32.ofInt 0 := by decide
theorem inR0 : inR 0 := ⟨by omega, by omega⟩
theorem i32_nat {z : Int} (h : inR z) : (Int32.ofInt z).toNatClampNeg = z.toNat := by show (Int32.ofInt z).toInt.toNat = _; rw [r32 h]
theorem i32_in {z : Int} {n : Nat} (h : inR z) (h0 : 0 ≤ z) (hn : z < n) : vp_in (Int32.ofInt z) n := by
  intro q
  rcases q with q | q
  · rw [i32_zero, i32_lt h inR0] at q; omega
  · rw [i32_nat h] at q; omega
theorem i64_eq {a b : Int} (ha : inJ a) (hb : inJ b) : (Int64.ofInt a = Int64.ofInt b) ↔ a = b := ⟨fun h => by rw [← r64 ha, ← r64 hb, h], fun h => by rw [h]⟩
theorem i64_lt {a b : Int} (ha : inJ a) (hb : inJ b) : (Int64.ofInt a < Int64.ofInt b) ↔ a < b := by rw [Int64.lt_iff_toInt_lt, r64 ha, r64 hb]
def lkp : List (Nat × AV) → Nat → Option AV
  | [], _ => none
  | q :: L, i => bif Nat.beq q.1 i then some q.2 else lkp L i
theorem lkp_mem {L : List (Nat × AV)} {i : Nat} {v : AV} (h : lkp L i = some v) : (i, v) ∈ L := by
  induction L with
  | nil => cases h
  | cons q L ih =>
    unfold lkp at h
    cases hq : Nat.beq q.1 i with
    | true =>
      rw [hq] at h
      cases h
      have := Nat.eq_of_beq_eq_true hq
      rw [← this]
      exact List.mem_cons_self
    | false =>
      rw [hq] at h
      exact List.mem_cons_of_mem _ (ih h)
theorem lkp_at {L : List (Nat × AV)} {i : Nat} {v : AV} {ad : Nat → Nat} {ls : Array Slot} {nL : Nat} (h : lkp L i = some v) (hl : lv_has ls nL (cl ad L)) : ls[i]? = some (.val (cv ad v)) :=
  hl.2.2 (i, cv ad v) (List.mem_map.mpr ⟨(i, v), lkp_mem h, rfl⟩)
def isJ : AV → Bool
  | .inr (.inr _) => true
  | _ => false
theorem cv_cat (ad : Nat → Nat) (v : AV) : ((cv ad v).category == 2) = isJ v := by
  rcases v with z | r | z
  · rfl
  · cases r <;> rfl
  · rfl
/-- a local of one slot stored -/
def st1 (L : List (Nat × AV)) (i : Nat) (v : AV) : List (Nat × AV) := (i, v) :: L.filter (fun q => !(Nat.beq q.1 i) && !(Nat.beq (q.1 + 1) i && isJ q.2))
/-- a local of two slots stored -/
def st2 (L : List (Nat × AV)) (i : Nat) (v : AV) : List (Nat × AV) := (i, v) :: L.filter (fun q => !(Nat.beq q.1 i) && (!(Nat.beq q.1 (i + 1)) && !(Nat.beq (q.1 + 1) i && isJ q.2)))
theorem nb (a b : Nat) : Nat.beq a b = (a == b) := by
  rw [Bool.eq_iff_iff, beq_iff_eq]
  exact ⟨Nat.eq_of_beq_eq_true, fun h => by subst h; exact Nat.beq_refl a⟩
theorem mx8 : Int8.maxValue.toInt = 127 := by decide +kernel
theorem mx16 : Int16.maxValue.toInt = 32767 := by decide +kernel
theorem mx32 : Int32.maxValue.toInt = 2147483647 := by decide +kernel
theorem mx64 : Int64.maxValue.toInt = 9223372036854775807 := by decide +kernel
theorem st1_cl (ad : Nat → Nat) (L : List (Nat × AV)) (i : Nat) (v : AV) : (i, cv ad v) :: (cl ad L).filter (fun q => !(q.1 == i) && !(q.1 + 1 == i && q.2.category == 2)) = cl ad (st1 L i v) := by
  unfold cl st1
  rw [List.filter_map]
  simp only [List.map_cons, Function.comp_def, cv_cat, nb]
theorem st2_cl (ad : Nat → Nat) (L : List (Nat × AV)) (i : Nat) (v : AV) : (i, cv ad v) :: (cl ad L).filter (fun q => !(q.1 == i) && (!(q.1 == i + 1) && !(q.1 + 1 == i && q.2.category == 2))) = cl ad (st2 L i v) := by
  unfold cl st2
  rw [List.filter_map]
  simp only [List.map_cons, Function.comp_def, cv_cat, nb]
theorem WFl.st1 {K : KT} {L : List (Nat × AV)} {i : Nat} {v : AV} (h : WFl K L) (hv : WFv K v) : WFl K (st1 L i v) := by
  intro q hq
  rcases List.mem_cons.mp hq with rfl | hq
  · exact hv
  · exact h q (List.mem_filter.mp hq).1
theorem WFl.st2 {K : KT} {L : List (Nat × AV)} {i : Nat} {v : AV} (h : WFl K L) (hv : WFv K v) : WFl K (st2 L i v) := by
  intro q hq
  rcases List.mem_cons.mp hq with rfl | hq
  · exact hv
  · exact h q (List.mem_filter.mp hq).1
theorem WFl.at {K : KT} {L : List (Nat × AV)} {i : Nat} {v : AV} (h : WFl K L) (hv : lkp L i = some v) : WFv K v := h _ (lkp_mem hv)
theorem WFs.cons {K : KT} {v : AV} {S : List AV} (h : WFv K v) (hS : WFs K S) : WFs K (v :: S) := fun w hw => (List.mem_cons.mp hw).elim (fun e => e ▸ h) (hS w)
theorem WFs.hd {K : KT} {v : AV} {S : List AV} (h : WFs K (v :: S)) : WFv K v := h v List.mem_cons_self
theorem WFs.tl {K : KT} {v : AV} {S : List AV} (h : WFs K (v :: S)) : WFs K S := fun w hw => h w (List.mem_cons_of_mem _ hw)
section Rules
variable {M : MD} {x : Bool} {R : Room} {Q : PQ} {K : KT} {P : PT} {J I : IT} {cs n pc pc' : Nat} {L L' : List (Nat × AV)} {S S' : List AV}
theorem CX.re {p : Program} {l : Launch} {s : State} {m : MethodId} {args : Array Value} {meth : Method} {c : Code} {D : GD} {ad0 ad : Nat → Nat} {K0 : KT} {dom : List Nat} {H : Heap} {locs : List Loc}
    (h : CX M x R p l s m args meth c D ad0 ad K0 dom H locs K P J I L S) (hS : WFs K S') (hL : WFl K L') : CX M x R p l s m args meth c D ad0 ad K0 dom H locs K P J I L' S' := by
  obtain ⟨h1, h2, h3, h4, -, -, h7, h8, h9⟩ := h
  exact ⟨h1, h2, h3, h4, hS, hL, h7, h8, h9⟩
/-- the heap isn't touched -/
theorem VW.go (k : VW M x R Q K P J I cs n pc' L' S') (f : ∀ {p : Program} {l : Launch} {e : Env} {s : State} {m : MethodId} {args : Array Value} {below : List Frame} {meth : Method} {c : Code} {D : GD} {ad0 ad : Nat → Nat} {K0 : KT} {dom : List Nat} {H : Heap} {locs : List Loc} {ls : Array Slot} {Qf : State → Prop},
      CX M x R p l s m args meth c D ad0 ad K0 dom H locs K P J I L S → lv_has ls M.2.2.1 (cl ad L) →
      (∀ ls', WFs K S' → WFl K L' → lv_has ls' M.2.2.1 (cl ad L') → W p l e R s m args below meth c H locs cs n Qf (F0 m pc' ls' (S'.map (cv ad)))) →
      W p l e R s m args below meth c H locs cs n Qf (F0 m pc ls (S.map (cv ad)))) : VW M x R Q K P J I cs n pc L S := by
  intro p l e s m args below meth c D ad0 ad K0 dom H locs ls X hl
  exact f X hl (fun ls' hS hL hl' => k p l e s m args below meth c D ad0 ad K0 dom H locs ls' (X.re hS hL) hl')
theorem VW.iload_n {i : Fin 4} {z : Int} (d : decode M.2.1 pc = .ok (.iload_n i, 1)) (hp : pc + 1 = pc') (h : lkp L (i : Nat) = some (vI z)) (k : VW M x R Q K P J I cs n pc' L (vI z :: S)) : VW M x R Q K P J I cs n pc L S := by
  subst hp
  exact VW.go k (fun X hl kk => lv_iload_n X.1.1 X.1.2.1 d rfl (lkp_at h hl) (kk _ (WFs.cons (X.2.2.2.2.2.1.at h) X.2.2.2.2.1) X.2.2.2.2.2.1 hl))
theorem VW.iload {i : Nat} {z : Int} (d : decode M.2.1 pc = .ok (.iload i, 2)) (hp : pc + 2 = pc') (h : lkp L i = some (vI z)) (k : VW M x R Q K P J I cs n pc' L (vI z :: S)) : VW M x R Q K P J I cs n pc L S := by
  subst hp
  exact VW.go k (fun X hl kk => lv_iload X.1.1 X.1.2.1 d (lkp_at h hl) (kk _ (WFs.cons (X.2.2.2.2.2.1.at h) X.2.2.2.2.1) X.2.2.2.2.2.1 hl))
theorem VW.lload_n {i : Fin 4} {z : Int} (d : decode M.2.1 pc = .ok (.lload_n i, 1)) (hp : pc + 1 = pc') (h : lkp L (i : Nat) = some (vJ z)) (k : VW M x R Q K P J I cs n pc' L (vJ z :: S)) : VW M x R Q K P J I cs n pc L S := by
  subst hp
  exact VW.go k (fun X hl kk => lv_lload_n X.1.1 X.1.2.1 d rfl (lkp_at h hl) (kk _ (WFs.cons (X.2.2.2.2.2.1.at h) X.2.2.2.2.1) X.2.2.2.2.2.1 hl))
theorem VW.lload {i : Nat} {z : Int} (d : decode M.2.1 pc = .ok (.lload i, 2)) (hp : pc + 2 = pc') (h : lkp L i = some (vJ z)) (k : VW M x R Q K P J I cs n pc' L (vJ z :: S)) : VW M x R Q K P J I cs n pc L S := by
  subst hp
  exact VW.go k (fun X hl kk => lv_lload X.1.1 X.1.2.1 d (lkp_at h hl) (kk _ (WFs.cons (X.2.2.2.2.2.1.at h) X.2.2.2.2.1) X.2.2.2.2.2.1 hl))
theorem VW.aload_n {i : Fin 4} {o : Nat} (d : decode M.2.1 pc = .ok (.aload_n i, 1)) (hp : pc + 1 = pc') (h : lkp L (i : Nat) = some (vR (some o))) (k : VW M x R Q K P J I cs n pc' L (vR (some o) :: S)) : VW M x R Q K P J I cs n pc L S := by
  subst hp
  exact VW.go k (fun X hl kk => lv_aload_n X.1.1 X.1.2.1 d rfl (lkp_at h hl) (kk _ (WFs.cons (X.2.2.2.2.2.1.at h) X.2.2.2.2.1) X.2.2.2.2.2.1 hl))
theorem VW.aload {i : Nat} {o : Nat} (d : decode M.2.1 pc = .ok (.aload i, 2)) (hp : pc + 2 = pc') (h : lkp L i = some (vR (some o))) (k : VW M x R Q K P J I cs n pc' L (vR (some o) :: S)) : VW M x R Q K P J I cs n pc L S := by
  subst hp
  exact VW.go k (fun X hl kk => lv_aload X.1.1 X.1.2.1 d (lkp_at h hl) (kk _ (WFs.cons (X.2.2.2.2.2.1.at h) X.2.2.2.2.1) X.2.2.2.2.2.1 hl))
theorem VW.istore_n {i : Fin 4} {z : Int} (d : decode M.2.1 pc = .ok (.istore_n i, 1)) (hp : pc + 1 = pc') (hi : Nat.ble ((i : Nat) + 1) M.2.2.1 = true) (k : VW M x R Q K P J I cs n pc' (st1 L (i : Nat) (vI z)) S) : VW M x R Q K P J I cs n pc L (vI z :: S) := by
  subst hp
  exact VW.go k (fun {_ _ _ _ _ _ _ _ _ _ _ ad _ _ _ _ _ _} X hl kk => lv_istore_n X.1.1 X.1.2.1 d rfl hl (Nat.le_of_ble_eq_true hi) (st1_cl ad L (i : Nat) (vI z)) (fun ls' hl' => kk ls' X.2.2.2.2.1.tl (X.2.2.2.2.2.1.st1 X.2.2.2.2.1.hd) hl'))
theorem VW.istore {i : Nat} {z : Int} (d : decode M.2.1 pc = .ok (.istore i, 2)) (hp : pc + 2 = pc') (hi : Nat.ble (i + 1) M.2.2.1 = true) (k : VW M x R Q K P J I cs n pc' (st1 L i (vI z)) S) : VW M x R Q K P J I cs n pc L (vI z :: S) := by
  subst hp
  exact VW.go k (fun {_ _ _ _ _ _ _ _ _ _ _ ad _ _ _ _ _ _} X hl kk => lv_istore X.1.1 X.1.2.1 d hl (Nat.le_of_ble_eq_true hi) (st1_cl ad L i (vI z)) (fun ls' hl' => kk ls' X.2.2.2.2.1.tl (X.2.2.2.2.2.1.st1 X.2.2.2.2.1.hd) hl'))
theorem VW.lstore_n {i : Fin 4} {z : Int} (d : decode M.2.1 pc = .ok (.lstore_n i, 1)) (hp : pc + 1 = pc') (hi : Nat.ble ((i : Nat) + 1 + 1) M.2.2.1 = true) (k : VW M x R Q K P J I cs n pc' (st2 L (i : Nat) (vJ z)) S) : VW M x R Q K P J I cs n pc L (vJ z :: S) := by
  subst hp
  exact VW.go k (fun {_ _ _ _ _ _ _ _ _ _ _ ad _ _ _ _ _ _} X hl kk => lv_lstore_n X.1.1 X.1.2.1 d rfl hl (Nat.le_of_ble_eq_true hi) (st2_cl ad L (i : Nat) (vJ z)) (fun ls' hl' => kk ls' X.2.2.2.2.1.tl (X.2.2.2.2.2.1.st2 X.2.2.2.2.1.hd) hl'))
theorem VW.lstore {i : Nat} {z : Int} (d : decode M.2.1 pc = .ok (.lstore i, 2)) (hp : pc + 2 = pc') (hi : Nat.ble (i + 1 + 1) M.2.2.1 = true) (k : VW M x R Q K P J I cs n pc' (st2 L i (vJ z)) S) : VW M x R Q K P J I cs n pc L (vJ z :: S) := by
  subst hp
  exact VW.go k (fun {_ _ _ _ _ _ _ _ _ _ _ ad _ _ _ _ _ _} X hl kk => lv_lstore X.1.1 X.1.2.1 d hl (Nat.le_of_ble_eq_true hi) (st2_cl ad L i (vJ z)) (fun ls' hl' => kk ls' X.2.2.2.2.1.tl (X.2.2.2.2.2.1.st2 X.2.2.2.2.1.hd) hl'))
theorem VW.astore_n {i : Fin 4} {o : Nat} (d : decode M.2.1 pc = .ok (.astore_n i, 1)) (hp : pc + 1 = pc') (hi : Nat.ble ((i : Nat) + 1) M.2.2.1 = true) (k : VW M x R Q K P J I cs n pc' (st1 L (i : Nat) (vR (some o))) S) : VW M x R Q K P J I cs n pc L (vR (some o) :: S) := by
  subst hp
  exact VW.go k (fun {_ _ _ _ _ _ _ _ _ _ _ ad _ _ _ _ _ _} X hl kk => lv_astore_n X.1.1 X.1.2.1 d rfl hl (Nat.le_of_ble_eq_true hi) (st1_cl ad L (i : Nat) (vR (some o))) (fun ls' hl' => kk ls' X.2.2.2.2.1.tl (X.2.2.2.2.2.1.st1 X.2.2.2.2.1.hd) hl'))
theorem VW.astore {i : Nat} {o : Nat} (d : decode M.2.1 pc = .ok (.astore i, 2)) (hp : pc + 2 = pc') (hi : Nat.ble (i + 1) M.2.2.1 = true) (k : VW M x R Q K P J I cs n pc' (st1 L i (vR (some o))) S) : VW M x R Q K P J I cs n pc L (vR (some o) :: S) := by
  subst hp
  exact VW.go k (fun {_ _ _ _ _ _ _ _ _ _ _ ad _ _ _ _ _ _} X hl kk => lv_astore X.1.1 X.1.2.1 d hl (Nat.le_of_ble_eq_true hi) (st1_cl ad L i (vR (some o))) (fun ls' hl' => kk ls' X.2.2.2.2.1.tl (X.2.2.2.2.2.1.st1 X.2.2.2.2.1.hd) hl'))
theorem VW.iconst {z : Int} (d : decode M.2.1 pc = .ok (.iconst z, 1)) (hp : pc + 1 = pc') (hz : inR z) (k : VW M x R Q K P J I cs n pc' L (vI z :: S)) : VW M x R Q K P J I cs n pc L S := by
  subst hp
  exact VW.go k (fun X hl kk => lv_iconst X.1.1 X.1.2.1 d rfl (kk _ (WFs.cons hz X.2.2.2.2.1) X.2.2.2.2.2.1 hl))
theorem VW.bipush {z : Int} (d : decode M.2.1 pc = .ok (.bipush z, 2)) (hp : pc + 2 = pc') (hz : -128 ≤ z ∧ z ≤ 127) (k : VW M x R Q K P J I cs n pc' L (vI z :: S)) : VW M x R Q K P J I cs n pc L S := by
  subst hp
  have e : (Int8.ofInt z).toInt32 = Int32.ofInt z := Int8.toInt32_ofInt (by simpa using hz.1) (by rw [mx8]; exact hz.2)
  exact VW.go k (fun X hl kk => lv_bipush X.1.1 X.1.2.1 d e (kk _ (WFs.cons (show inR z from ⟨by omega, by omega⟩) X.2.2.2.2.1) X.2.2.2.2.2.1 hl))
theorem VW.sipush {z : Int} (d : decode M.2.1 pc = .ok (.sipush z, 3)) (hp : pc + 3 = pc') (hz : -32768 ≤ z ∧ z ≤ 32767) (k : VW M x R Q K P J I cs n pc' L (vI z :: S)) : VW M x R Q K P J I cs n pc L S := by
  subst hp
  have e : (Int16.ofInt z).toInt32 = Int32.ofInt z := Int16.toInt32_ofInt (by simpa using hz.1) (by rw [mx16]; exact hz.2)
  exact VW.go k (fun X hl kk => lv_sipush X.1.1 X.1.2.1 d e (kk _ (WFs.cons (show inR z from ⟨by omega, by omega⟩) X.2.2.2.2.1) X.2.2.2.2.2.1 hl))
theorem VW.ldc {z : Int} {w : Int32} {j : Nat} (d : decode M.2.1 pc = .ok (.ldc j, 2)) (hp : pc + 2 = pc') (hw : Cond.constant M.1.cls j w ∈ TB) (e : w = Int32.ofInt z) (hz : inR z) (k : VW M x R Q K P J I cs n pc' L (vI z :: S)) : VW M x R Q K P J I cs n pc L S := by
  subst hp
  subst e
  exact VW.go k (fun X hl kk => lv_ldc X.1.1 X.1.2.1 X.1.2.2.2.2.1 (X.1.2.2.2.2.2.1 _ hw) d (kk _ (WFs.cons hz X.2.2.2.2.1) X.2.2.2.2.2.1 hl))
theorem VW.ldc2 {z : Int} {w : Int64} {j : Nat} (d : decode M.2.1 pc = .ok (.ldc2_w j, 3)) (hp : pc + 3 = pc') (hw : Cond.constantLong M.1.cls j w ∈ TB) (e : w = Int64.ofInt z) (hz : inJ z) (k : VW M x R Q K P J I cs n pc' L (vJ z :: S)) : VW M x R Q K P J I cs n pc L S := by
  subst hp
  subst e
  exact VW.go k (fun X hl kk => W.ldc2 X.1.1 X.1.2.1 X.1.2.2.2.2.1 (X.1.2.2.2.2.2.1 _ hw) rfl d (kk _ (WFs.cons hz X.2.2.2.2.1) X.2.2.2.2.2.1 hl))
theorem VW.lconst {i : Fin 2} {z : Int} (d : decode M.2.1 pc = .ok (.lconst i, 1)) (hp : pc + 1 = pc') (e : Int64.ofNat (i : Nat) = Int64.ofInt z) (hz : inJ z) (k : VW M x R Q K P J I cs n pc' L (vJ z :: S)) : VW M x R Q K P J I cs n pc L S := by
  subst hp
  exact VW.go k (fun X hl kk => lv_lconst X.1.1 X.1.2.1 d e (kk _ (WFs.cons hz X.2.2.2.2.1) X.2.2.2.2.2.1 hl))
theorem VW.null (d : decode M.2.1 pc = .ok (.aconst_null, 1)) (hp : pc + 1 = pc') (k : VW M x R Q K P J I cs n pc' L (vR none :: S)) : VW M x R Q K P J I cs n pc L S := by
  subst hp
  exact VW.go k (fun X hl kk => lv_null X.1.1 X.1.2.1 d (kk _ (WFs.cons (fun q h => by cases h) X.2.2.2.2.1) X.2.2.2.2.2.1 hl))
theorem VW.iadd {a b : Int} (d : decode M.2.1 pc = .ok (.iadd, 1)) (hp : pc + 1 = pc') (hz : inR (a + b)) (k : VW M x R Q K P J I cs n pc' L (vI (a + b) :: S)) : VW M x R Q K P J I cs n pc L (vI b :: vI a :: S) := by
  subst hp
  exact VW.go k (fun X hl kk => lv_iadd X.1.1 X.1.2.1 d (by have q := kk _ (WFs.cons hz X.2.2.2.2.1.tl.tl) X.2.2.2.2.2.1 hl; simp only [List.map_cons, cv, Int32.ofInt_add] at q; exact q))
theorem VW.iaddW {a b : Int} (d : decode M.2.1 pc = .ok (.iadd, 1)) (hp : pc + 1 = pc') (k : ∀ z : Int, inR z → z = (a + b).bmod 4294967296 → VW M x R Q K P J I cs n pc' L (vI z :: S)) : VW M x R Q K P J I cs n pc L (vI b :: vI a :: S) := by
  subst hp
  have hb : inR ((a + b).bmod 4294967296) := ⟨by have := Int.le_bmod (x := a + b) (m := 4294967296) (by omega); omega, by have := Int.bmod_lt (x := a + b) (m := 4294967296) (by omega); omega⟩
  have e : Int32.ofInt ((a + b).bmod 4294967296) = Int32.ofInt (a + b) := by apply Int32.toInt.inj; simp
  exact VW.go (k _ hb rfl) (fun X hl kk => lv_iadd X.1.1 X.1.2.1 d (by have q := kk _ (WFs.cons hb X.2.2.2.2.1.tl.tl) X.2.2.2.2.2.1 hl; simp only [List.map_cons, cv, e, Int32.ofInt_add] at q; exact q))
theorem VW.isub {a b : Int} (d : decode M.2.1 pc = .ok (.isub, 1)) (hp : pc + 1 = pc') (hz : inR (a - b)) (k : VW M x R Q K P J I cs n pc' L (vI (a - b) :: S)) : VW M x R Q K P J I cs n pc L (vI b :: vI a :: S) := by
  subst hp
  exact VW.go k (fun X hl kk => lv_isub X.1.1 X.1.2.1 d (by have q := kk _ (WFs.cons hz X.2.2.2.2.1.tl.tl) X.2.2.2.2.2.1 hl; simp only [List.map_cons, cv, Int32.ofInt_sub] at q; exact q))
theorem VW.isubW {a b : Int} (d : decode M.2.1 pc = .ok (.isub, 1)) (hp : pc + 1 = pc') (k : ∀ z : Int, inR z → z = (a - b).bmod 4294967296 → VW M x R Q K P J I cs n pc' L (vI z :: S)) : VW M x R Q K P J I cs n pc L (vI b :: vI a :: S) := by
  subst hp
  have hb : inR ((a - b).bmod 4294967296) := ⟨by have := Int.le_bmod (x := a - b) (m := 4294967296) (by omega); omega, by have := Int.bmod_lt (x := a - b) (m := 4294967296) (by omega); omega⟩
  have e : Int32.ofInt ((a - b).bmod 4294967296) = Int32.ofInt (a - b) := by apply Int32.toInt.inj; simp
  exact VW.go (k _ hb rfl) (fun X hl kk => lv_isub X.1.1 X.1.2.1 d (by have q := kk _ (WFs.cons hb X.2.2.2.2.1.tl.tl) X.2.2.2.2.2.1 hl; simp only [List.map_cons, cv, e, Int32.ofInt_sub] at q; exact q))
theorem VW.imul {a b : Int} (d : decode M.2.1 pc = .ok (.imul, 1)) (hp : pc + 1 = pc') (hz : inR (a * b)) (k : VW M x R Q K P J I cs n pc' L (vI (a * b) :: S)) : VW M x R Q K P J I cs n pc L (vI b :: vI a :: S) := by
  subst hp
  exact VW.go k (fun X hl kk => lv_imul X.1.1 X.1.2.1 d (by have q := kk _ (WFs.cons hz X.2.2.2.2.1.tl.tl) X.2.2.2.2.2.1 hl; simp only [List.map_cons, cv, Int32.ofInt_mul] at q; exact q))
theorem VW.imulW {a b : Int} (d : decode M.2.1 pc = .ok (.imul, 1)) (hp : pc + 1 = pc') (k : ∀ z : Int, inR z → z = (a * b).bmod 4294967296 → VW M x R Q K P J I cs n pc' L (vI z :: S)) : VW M x R Q K P J I cs n pc L (vI b :: vI a :: S) := by
  subst hp
  have hb : inR ((a * b).bmod 4294967296) := ⟨by have := Int.le_bmod (x := a * b) (m := 4294967296) (by omega); omega, by have := Int.bmod_lt (x := a * b) (m := 4294967296) (by omega); omega⟩
  have e : Int32.ofInt ((a * b).bmod 4294967296) = Int32.ofInt (a * b) := by apply Int32.toInt.inj; simp
  exact VW.go (k _ hb rfl) (fun X hl kk => lv_imul X.1.1 X.1.2.1 d (by have q := kk _ (WFs.cons hb X.2.2.2.2.1.tl.tl) X.2.2.2.2.2.1 hl; simp only [List.map_cons, cv, e, Int32.ofInt_mul] at q; exact q))
theorem VW.ladd {a b : Int} (d : decode M.2.1 pc = .ok (.ladd, 1)) (hp : pc + 1 = pc') (hz : inJ (a + b)) (k : VW M x R Q K P J I cs n pc' L (vJ (a + b) :: S)) : VW M x R Q K P J I cs n pc L (vJ b :: vJ a :: S) := by
  subst hp
  exact VW.go k (fun X hl kk => lv_ladd X.1.1 X.1.2.1 d (by have q := kk _ (WFs.cons hz X.2.2.2.2.1.tl.tl) X.2.2.2.2.2.1 hl; simp only [List.map_cons, cv, Int64.ofInt_add] at q; exact q))
theorem VW.lmul {a b : Int} (d : decode M.2.1 pc = .ok (.lmul, 1)) (hp : pc + 1 = pc') (hz : inJ (a * b)) (k : VW M x R Q K P J I cs n pc' L (vJ (a * b) :: S)) : VW M x R Q K P J I cs n pc L (vJ b :: vJ a :: S) := by
  subst hp
  exact VW.go k (fun X hl kk => lv_lmul X.1.1 X.1.2.1 d (by have q := kk _ (WFs.cons hz X.2.2.2.2.1.tl.tl) X.2.2.2.2.2.1 hl; simp only [List.map_cons, cv, Int64.ofInt_mul] at q; exact q))
theorem tdiv_in {a b : Int} (ha : inR a) (hz : inR (a.tdiv b)) : inR (a.tdiv b) := hz
theorem VW.idiv {a b : Int} (d : decode M.2.1 pc = .ok (.idiv, 1)) (hp : pc + 1 = pc') (hb : b ≠ 0) (hz : inR (a.tdiv b)) (k : VW M x R Q K P J I cs n pc' L (vI (a.tdiv b) :: S)) : VW M x R Q K P J I cs n pc L (vI b :: vI a :: S) := by
  subst hp
  refine VW.go k (fun X hl kk => ?_)
  have wb : inR b := X.2.2.2.2.1.hd
  have wa : inR a := X.2.2.2.2.1.tl.hd
  have e := Int32.ofInt_tdiv (a := a) (b := b) (by simpa using wa.1) (by rw [mx32]; exact wa.2) (by simpa using wb.1) (by rw [mx32]; exact wb.2)
  exact lv_idiv X.1.1 X.1.2.1 d (fun z => hb ((i32_eq wb inR0).mp (by rw [z]; rfl))) (by have q := kk _ (WFs.cons hz X.2.2.2.2.1.tl.tl) X.2.2.2.2.2.1 hl; simp only [List.map_cons, cv, e] at q; exact q)
theorem VW.irem {a b : Int} (d : decode M.2.1 pc = .ok (.irem, 1)) (hp : pc + 1 = pc') (hb : b ≠ 0) (hz : inR (a.tmod b)) (k : VW M x R Q K P J I cs n pc' L (vI (a.tmod b) :: S)) : VW M x R Q K P J I cs n pc L (vI b :: vI a :: S) := by
  subst hp
  refine VW.go k (fun X hl kk => ?_)
  have wb : inR b := X.2.2.2.2.1.hd
  have wa : inR a := X.2.2.2.2.1.tl.hd
  have e := Int32.ofInt_tdiv (a := a) (b := b) (by simpa using wa.1) (by rw [mx32]; exact wa.2) (by simpa using wb.1) (by rw [mx32]; exact wb.2)
  have e2 : Int32.ofInt (a.tmod b) = Int32.ofInt a - Int32.ofInt a / Int32.ofInt b * Int32.ofInt b := by rw [Int.tmod_def, Int32.ofInt_sub, Int32.ofInt_mul, e, Int32.mul_comm]
  exact lv_irem X.1.1 X.1.2.1 d (fun z => hb ((i32_eq wb inR0).mp (by rw [z]; rfl))) (by have q := kk _ (WFs.cons hz X.2.2.2.2.1.tl.tl) X.2.2.2.2.2.1 hl; simp only [List.map_cons, cv, e2] at q; exact q)
theorem VW.ldiv {a b : Int} (d : decode M.2.1 pc = .ok (.ldiv, 1)) (hp : pc + 1 = pc') (hb : b ≠ 0) (hz : inJ (a.tdiv b)) (k : VW M x R Q K P J I cs n pc' L (vJ (a.tdiv b) :: S)) : VW M x R Q K P J I cs n pc L (vJ b :: vJ a :: S) := by
  subst hp
  refine VW.go k (fun X hl kk => ?_)
  have wb : inJ b := X.2.2.2.2.1.hd
  have wa : inJ a := X.2.2.2.2.1.tl.hd
  have e := Int64.ofInt_tdiv (a := a) (b := b) (by simpa using wa.1) (by rw [mx64]; exact wa.2) (by simpa using wb.1) (by rw [mx64]; exact wb.2)
  exact lv_ldiv X.1.1 X.1.2.1 d (fun z => hb ((i64_eq wb ⟨by omega, by omega⟩).mp (by rw [z]; rfl))) (by have q := kk _ (WFs.cons hz X.2.2.2.2.1.tl.tl) X.2.2.2.2.2.1 hl; simp only [List.map_cons, cv, e] at q; exact q)
theorem VW.iand {a b z : Int} (d : decode M.2.1 pc = .ok (.iand, 1)) (hp : pc + 1 = pc') (hz : inR z) (e : Int32.ofInt a &&& Int32.ofInt b = Int32.ofInt z) (k : VW M x R Q K P J I cs n pc' L (vI z :: S)) : VW M x R Q K P J I cs n pc L (vI b :: vI a :: S) := by
  subst hp
  exact VW.go k (fun X hl kk => lv_iand X.1.1 X.1.2.1 d (by have q := kk _ (WFs.cons hz X.2.2.2.2.1.tl.tl) X.2.2.2.2.2.1 hl; simp only [List.map_cons, cv, ← e] at q; exact q))
theorem VW.ior {a b z : Int} (d : decode M.2.1 pc = .ok (.ior, 1)) (hp : pc + 1 = pc') (hz : inR z) (e : Int32.ofInt a ||| Int32.ofInt b = Int32.ofInt z) (k : VW M x R Q K P J I cs n pc' L (vI z :: S)) : VW M x R Q K P J I cs n pc L (vI b :: vI a :: S) := by
  subst hp
  exact VW.go k (fun X hl kk => lv_ior X.1.1 X.1.2.1 d (by have q := kk _ (WFs.cons hz X.2.2.2.2.1.tl.tl) X.2.2.2.2.2.1 hl; simp only [List.map_cons, cv, ← e] at q; exact q))
theorem VW.ishl {a b z : Int} (d : decode M.2.1 pc = .ok (.ishl, 1)) (hp : pc + 1 = pc') (hz : inR z) (e : Int32.ofInt a <<< (Int32.ofInt b &&& 31) = Int32.ofInt z) (k : VW M x R Q K P J I cs n pc' L (vI z :: S)) : VW M x R Q K P J I cs n pc L (vI b :: vI a :: S) := by
  subst hp
  exact VW.go k (fun X hl kk => lv_ishl X.1.1 X.1.2.1 d (by have q := kk _ (WFs.cons hz X.2.2.2.2.1.tl.tl) X.2.2.2.2.2.1 hl; simp only [List.map_cons, cv, ← e] at q; exact q))
theorem VW.ishr {a b z : Int} (d : decode M.2.1 pc = .ok (.ishr, 1)) (hp : pc + 1 = pc') (hz : inR z) (e : Int32.ofInt a >>> (Int32.ofInt b &&& 31) = Int32.ofInt z) (k : VW M x R Q K P J I cs n pc' L (vI z :: S)) : VW M x R Q K P J I cs n pc L (vI b :: vI a :: S) := by
  subst hp
  exact VW.go k (fun X hl kk => lv_ishr X.1.1 X.1.2.1 d (by have q := kk _ (WFs.cons hz X.2.2.2.2.1.tl.tl) X.2.2.2.2.2.1 hl; simp only [List.map_cons, cv, ← e] at q; exact q))
theorem VW.iushr {a b z : Int} (d : decode M.2.1 pc = .ok (.iushr, 1)) (hp : pc + 1 = pc') (hz : inR z) (e : ((Int32.ofInt a).toUInt32 >>> ((Int32.ofInt b).toUInt32 &&& Int32.toUInt32 31)).toInt32 = Int32.ofInt z) (k : VW M x R Q K P J I cs n pc' L (vI z :: S)) : VW M x R Q K P J I cs n pc L (vI b :: vI a :: S) := by
  subst hp
  exact VW.go k (fun X hl kk => lv_iushr X.1.1 X.1.2.1 d e (kk _ (WFs.cons hz X.2.2.2.2.1.tl.tl) X.2.2.2.2.2.1 hl))
theorem VW.i2l {a : Int} (d : decode M.2.1 pc = .ok (.i2l, 1)) (hp : pc + 1 = pc') (k : VW M x R Q K P J I cs n pc' L (vJ a :: S)) : VW M x R Q K P J I cs n pc L (vI a :: S) := by
  subst hp
  refine VW.go k (fun X hl kk => ?_)
  have wa : inR a := X.2.2.2.2.1.hd
  exact lv_i2l X.1.1 X.1.2.1 d (Int32.toInt64_ofInt (by simpa using wa.1) (by rw [mx32]; exact wa.2)) (kk _ (WFs.cons (show inJ a from ⟨by have := wa.1; omega, by have := wa.2; omega⟩) X.2.2.2.2.1.tl) X.2.2.2.2.2.1 hl)
theorem VW.l2i {a : Int} (d : decode M.2.1 pc = .ok (.l2i, 1)) (hp : pc + 1 = pc') (hz : inR a) (k : VW M x R Q K P J I cs n pc' L (vI a :: S)) : VW M x R Q K P J I cs n pc L (vJ a :: S) := by
  subst hp
  exact VW.go k (fun X hl kk => lv_l2i X.1.1 X.1.2.1 d Int64.toInt32_ofInt (kk _ (WFs.cons hz X.2.2.2.2.1.tl) X.2.2.2.2.2.1 hl))
theorem VW.lcmp {a b : Int} (d : decode M.2.1 pc = .ok (.lcmp, 1)) (hp : pc + 1 = pc') (k : VW M x R Q K P J I cs n pc' L (vI (if b < a then 1 else if a = b then 0 else -1) :: S)) : VW M x R Q K P J I cs n pc L (vJ b :: vJ a :: S) := by
  subst hp
  refine VW.go k (fun X hl kk => ?_)
  have wb : inJ b := X.2.2.2.2.1.hd
  have wa : inJ a := X.2.2.2.2.1.tl.hd
  have e : lg_cmp (Int64.ofInt a) (Int64.ofInt b) = Int32.ofInt (if b < a then 1 else if a = b then 0 else -1) := by
    unfold lg_cmp
    by_cases h1 : b < a
    · rw [if_pos ((i64_lt wb wa).mpr h1), if_pos h1]; rfl
    · rw [if_neg (fun q => h1 ((i64_lt wb wa).mp q)), if_neg h1]
      by_cases h2 : a = b
      · rw [if_pos ((i64_eq wa wb).mpr h2), if_pos h2]; rfl
      · rw [if_neg (fun q => h2 ((i64_eq wa wb).mp q)), if_neg h2]; rfl
  have hz : inR (if b < a then 1 else if a = b then 0 else -1) := by split; exact ⟨by omega, by omega⟩; split; exact ⟨by omega, by omega⟩; exact ⟨by omega, by omega⟩
  exact W.lcmp X.1.1 X.1.2.1 d (by have q := kk _ (WFs.cons hz X.2.2.2.2.1.tl.tl) X.2.2.2.2.2.1 hl; rw [e]; exact q)
theorem VW.iinc {i : Nat} {a c : Int} (d : decode M.2.1 pc = .ok (.iinc i c, 3)) (hp : pc + 3 = pc') (h : lkp L i = some (vI a)) (hi : Nat.ble (i + 1) M.2.2.1 = true) (hz : inR (a + c)) (k : VW M x R Q K P J I cs n pc' (st1 L i (vI (a + c))) S) : VW M x R Q K P J I cs n pc L S := by
  subst hp
  refine VW.go k (fun {_ _ _ _ _ _ _ _ _ _ _ ad _ _ _ _ _ _} X hl kk => ?_)
  obtain ⟨j, hj⟩ := List.getElem?_of_mem (List.mem_map.mpr ⟨(i, vI a), lkp_mem h, rfl⟩ : (i, cv ad (vI a)) ∈ cl ad L)
  exact lv_iinc (k := j) X.1.1 X.1.2.1 d hl hj (by rw [show cv ad (vI a) = Value.int (Int32.ofInt a) from rfl] at hj; exact (Int32.ofInt_add a c).symm) (Nat.le_of_ble_eq_true hi) (st1_cl ad L i (vI (a + c))) (fun ls' hl' => kk ls' X.2.2.2.2.1 (X.2.2.2.2.2.1.st1 hz) hl')
theorem VW.dup {v : AV} (d : decode M.2.1 pc = .ok (.dup, 1)) (hp : pc + 1 = pc') (hv : isJ v = false) (k : VW M x R Q K P J I cs n pc' L (v :: v :: S)) : VW M x R Q K P J I cs n pc L (v :: S) := by
  subst hp
  exact VW.go k (fun {_ _ _ _ _ _ _ _ _ _ _ ad _ _ _ _ _ _} X hl kk => lv_dup X.1.1 X.1.2.1 d (by rcases lv_cat (cv ad v) with q | q; exact q; have := cv_cat ad v; rw [hv, q] at this; cases this) (kk _ (WFs.cons X.2.2.2.2.1.hd X.2.2.2.2.1) X.2.2.2.2.2.1 hl))
theorem VW.pop {v : AV} (d : decode M.2.1 pc = .ok (.pop, 1)) (hp : pc + 1 = pc') (hv : isJ v = false) (k : VW M x R Q K P J I cs n pc' L S) : VW M x R Q K P J I cs n pc L (v :: S) := by
  subst hp
  exact VW.go k (fun {_ _ _ _ _ _ _ _ _ _ _ ad _ _ _ _ _ _} X hl kk => lv_pop X.1.1 X.1.2.1 d (by rcases lv_cat (cv ad v) with q | q; exact q; have := cv_cat ad v; rw [hv, q] at this; cases this) (kk _ X.2.2.2.2.1.tl X.2.2.2.2.2.1 hl))
theorem VW.dup2 {v w : AV} (d : decode M.2.1 pc = .ok (.dup2, 1)) (hp : pc + 1 = pc') (hv : isJ v = false) (hw : isJ w = false) (k : VW M x R Q K P J I cs n pc' L (v :: w :: v :: w :: S)) : VW M x R Q K P J I cs n pc L (v :: w :: S) := by
  subst hp
  exact VW.go k (fun {_ _ _ _ _ _ _ _ _ _ _ ad _ _ _ _ _ _} X hl kk => lv_dup2_11 X.1.1 X.1.2.1 d (by rcases lv_cat (cv ad v) with q | q; exact q; have := cv_cat ad v; rw [hv, q] at this; cases this) (by rcases lv_cat (cv ad w) with q | q; exact q; have := cv_cat ad w; rw [hw, q] at this; cases this)
    (kk _ (WFs.cons X.2.2.2.2.1.hd (WFs.cons X.2.2.2.2.1.tl.hd X.2.2.2.2.1)) X.2.2.2.2.2.1 hl))
theorem VW.goto {off : Int} (d : decode M.2.1 pc = .ok (.goto off, 3)) (ht : (pc : Int) + off = (pc' : Int)) (k : VW M x R Q K P J I cs n pc' L S) : VW M x R Q K P J I cs n pc L S :=
  VW.go k (fun X hl kk => lv_goto X.1.1 X.1.2.1 d ht (kk _ X.2.2.2.2.1 X.2.2.2.2.2.1 hl))
theorem VW.icmp_eq {a b : Int} {off : Int} {tgt : Nat} (d : decode M.2.1 pc = .ok (.if_icmp .eq off, 3)) (ht : (pc : Int) + off = (tgt : Int)) (hp : pc + 3 = pc') (kt : a = b → VW M x R Q K P J I cs n tgt L S) (kf : a ≠ b → VW M x R Q K P J I cs n pc' L S) : VW M x R Q K P J I cs n pc L (vI b :: vI a :: S) := by
  subst hp
  intro p l e s m args below meth c D ad0 ad K0 dom H locs ls X hl
  have wb : inR b := X.2.2.2.2.1.hd
  have wa : inR a := X.2.2.2.2.1.tl.hd
  refine lv_icmp_eq X.1.1 X.1.2.1 d ht (fun q => kt ((i32_eq wa wb).mp q) p l e s m args below meth c D ad0 ad K0 dom H locs ls (X.re X.2.2.2.2.1.tl.tl X.2.2.2.2.2.1) hl) (fun q => kf (fun z => q ((i32_eq wa wb).mpr z)) p l e s m args below meth c D ad0 ad K0 dom H locs ls (X.re X.2.2.2.2.1.tl.tl X.2.2.2.2.2.1) hl)
theorem VW.if_eq {a : Int} {off : Int} {tgt : Nat} (d : decode M.2.1 pc = .ok (.ifCond .eq off, 3)) (ht : (pc : Int) + off = (tgt : Int)) (hp : pc + 3 = pc') (kt : a = 0 → VW M x R Q K P J I cs n tgt L S) (kf : a ≠ 0 → VW M x R Q K P J I cs n pc' L S) : VW M x R Q K P J I cs n pc L (vI a :: S) := by
  subst hp
  intro p l e s m args below meth c D ad0 ad K0 dom H locs ls X hl
  have wa : inR a := X.2.2.2.2.1.hd
  refine lv_if_eq X.1.1 X.1.2.1 d ht (fun q => kt ((i32_eq wa inR0).mp q) p l e s m args below meth c D ad0 ad K0 dom H locs ls (X.re X.2.2.2.2.1.tl X.2.2.2.2.2.1) hl) (fun q => kf (fun z => q ((i32_eq wa inR0).mpr z)) p l e s m args below meth c D ad0 ad K0 dom H locs ls (X.re X.2.2.2.2.1.tl X.2.2.2.2.2.1) hl)
theorem VW.icmp_ne {a b : Int} {off : Int} {tgt : Nat} (d : decode M.2.1 pc = .ok (.if_icmp .ne off, 3)) (ht : (pc : Int) + off = (tgt : Int)) (hp : pc + 3 = pc') (kt : a ≠ b → VW M x R Q K P J I cs n tgt L S) (kf : a = b → VW M x R Q K P J I cs n pc' L S) : VW M x R Q K P J I cs n pc L (vI b :: vI a :: S) := by
  subst hp
  intro p l e s m args below meth c D ad0 ad K0 dom H locs ls X hl
  have wb : inR b := X.2.2.2.2.1.hd
  have wa : inR a := X.2.2.2.2.1.tl.hd
  refine lv_icmp_ne X.1.1 X.1.2.1 d ht (fun q => kt (fun z => q ((i32_eq wa wb).mpr z)) p l e s m args below meth c D ad0 ad K0 dom H locs ls (X.re X.2.2.2.2.1.tl.tl X.2.2.2.2.2.1) hl) (fun q => kf ((i32_eq wa wb).mp q) p l e s m args below meth c D ad0 ad K0 dom H locs ls (X.re X.2.2.2.2.1.tl.tl X.2.2.2.2.2.1) hl)
theorem VW.if_ne {a : Int} {off : Int} {tgt : Nat} (d : decode M.2.1 pc = .ok (.ifCond .ne off, 3)) (ht : (pc : Int) + off = (tgt : Int)) (hp : pc + 3 = pc') (kt : a ≠ 0 → VW M x R Q K P J I cs n tgt L S) (kf : a = 0 → VW M x R Q K P J I cs n pc' L S) : VW M x R Q K P J I cs n pc L (vI a :: S) := by
  subst hp
  intro p l e s m args below meth c D ad0 ad K0 dom H locs ls X hl
  have wa : inR a := X.2.2.2.2.1.hd
  refine lv_if_ne X.1.1 X.1.2.1 d ht (fun q => kt (fun z => q ((i32_eq wa inR0).mpr z)) p l e s m args below meth c D ad0 ad K0 dom H locs ls (X.re X.2.2.2.2.1.tl X.2.2.2.2.2.1) hl) (fun q => kf ((i32_eq wa inR0).mp q) p l e s m args below meth c D ad0 ad K0 dom H locs ls (X.re X.2.2.2.2.1.tl X.2.2.2.2.2.1) hl)
theorem VW.icmp_lt {a b : Int} {off : Int} {tgt : Nat} (d : decode M.2.1 pc = .ok (.if_icmp .lt off, 3)) (ht : (pc : Int) + off = (tgt : Int)) (hp : pc + 3 = pc') (kt : a < b → VW M x R Q K P J I cs n tgt L S) (kf : b ≤ a → VW M x R Q K P J I cs n pc' L S) : VW M x R Q K P J I cs n pc L (vI b :: vI a :: S) := by
  subst hp
  intro p l e s m args below meth c D ad0 ad K0 dom H locs ls X hl
  have wb : inR b := X.2.2.2.2.1.hd
  have wa : inR a := X.2.2.2.2.1.tl.hd
  refine lv_icmp_lt X.1.1 X.1.2.1 d ht (fun q => kt ((i32_lt wa wb).mp q) p l e s m args below meth c D ad0 ad K0 dom H locs ls (X.re X.2.2.2.2.1.tl.tl X.2.2.2.2.2.1) hl) (fun q => kf (Int.not_lt.mp (fun z => q ((i32_lt wa wb).mpr z))) p l e s m args below meth c D ad0 ad K0 dom H locs ls (X.re X.2.2.2.2.1.tl.tl X.2.2.2.2.2.1) hl)
theorem VW.if_lt {a : Int} {off : Int} {tgt : Nat} (d : decode M.2.1 pc = .ok (.ifCond .lt off, 3)) (ht : (pc : Int) + off = (tgt : Int)) (hp : pc + 3 = pc') (kt : a < 0 → VW M x R Q K P J I cs n tgt L S) (kf : 0 ≤ a → VW M x R Q K P J I cs n pc' L S) : VW M x R Q K P J I cs n pc L (vI a :: S) := by
  subst hp
  intro p l e s m args below meth c D ad0 ad K0 dom H locs ls X hl
  have wa : inR a := X.2.2.2.2.1.hd
  refine lv_if_lt X.1.1 X.1.2.1 d ht (fun q => kt ((i32_lt wa inR0).mp q) p l e s m args below meth c D ad0 ad K0 dom H locs ls (X.re X.2.2.2.2.1.tl X.2.2.2.2.2.1) hl) (fun q => kf (Int.not_lt.mp (fun z => q ((i32_lt wa inR0).mpr z))) p l e s m args below meth c D ad0 ad K0 dom H locs ls (X.re X.2.2.2.2.1.tl X.2.2.2.2.2.1) hl)
theorem VW.icmp_ge {a b : Int} {off : Int} {tgt : Nat} (d : decode M.2.1 pc = .ok (.if_icmp .ge off, 3)) (ht : (pc : Int) + off = (tgt : Int)) (hp : pc + 3 = pc') (kt : b ≤ a → VW M x R Q K P J I cs n tgt L S) (kf : a < b → VW M x R Q K P J I cs n pc' L S) : VW M x R Q K P J I cs n pc L (vI b :: vI a :: S) := by
  subst hp
  intro p l e s m args below meth c D ad0 ad K0 dom H locs ls X hl
  have wb : inR b := X.2.2.2.2.1.hd
  have wa : inR a := X.2.2.2.2.1.tl.hd
  refine lv_icmp_ge X.1.1 X.1.2.1 d ht (fun q => kt ((i32_le wb wa).mp q) p l e s m args below meth c D ad0 ad K0 dom H locs ls (X.re X.2.2.2.2.1.tl.tl X.2.2.2.2.2.1) hl) (fun q => kf (Int.not_le.mp (fun z => q ((i32_le wb wa).mpr z))) p l e s m args below meth c D ad0 ad K0 dom H locs ls (X.re X.2.2.2.2.1.tl.tl X.2.2.2.2.2.1) hl)
theorem VW.if_ge {a : Int} {off : Int} {tgt : Nat} (d : decode M.2.1 pc = .ok (.ifCond .ge off, 3)) (ht : (pc : Int) + off = (tgt : Int)) (hp : pc + 3 = pc') (kt : 0 ≤ a → VW M x R Q K P J I cs n tgt L S) (kf : a < 0 → VW M x R Q K P J I cs n pc' L S) : VW M x R Q K P J I cs n pc L (vI a :: S) := by
  subst hp
  intro p l e s m args below meth c D ad0 ad K0 dom H locs ls X hl
  have wa : inR a := X.2.2.2.2.1.hd
  refine lv_if_ge X.1.1 X.1.2.1 d ht (fun q => kt ((i32_le inR0 wa).mp q) p l e s m args below meth c D ad0 ad K0 dom H locs ls (X.re X.2.2.2.2.1.tl X.2.2.2.2.2.1) hl) (fun q => kf (Int.not_le.mp (fun z => q ((i32_le inR0 wa).mpr z))) p l e s m args below meth c D ad0 ad K0 dom H locs ls (X.re X.2.2.2.2.1.tl X.2.2.2.2.2.1) hl)
theorem VW.icmp_gt {a b : Int} {off : Int} {tgt : Nat} (d : decode M.2.1 pc = .ok (.if_icmp .gt off, 3)) (ht : (pc : Int) + off = (tgt : Int)) (hp : pc + 3 = pc') (kt : b < a → VW M x R Q K P J I cs n tgt L S) (kf : a ≤ b → VW M x R Q K P J I cs n pc' L S) : VW M x R Q K P J I cs n pc L (vI b :: vI a :: S) := by
  subst hp
  intro p l e s m args below meth c D ad0 ad K0 dom H locs ls X hl
  have wb : inR b := X.2.2.2.2.1.hd
  have wa : inR a := X.2.2.2.2.1.tl.hd
  refine lv_icmp_gt X.1.1 X.1.2.1 d ht (fun q => kt ((i32_lt wb wa).mp q) p l e s m args below meth c D ad0 ad K0 dom H locs ls (X.re X.2.2.2.2.1.tl.tl X.2.2.2.2.2.1) hl) (fun q => kf (Int.not_lt.mp (fun z => q ((i32_lt wb wa).mpr z))) p l e s m args below meth c D ad0 ad K0 dom H locs ls (X.re X.2.2.2.2.1.tl.tl X.2.2.2.2.2.1) hl)
theorem VW.if_gt {a : Int} {off : Int} {tgt : Nat} (d : decode M.2.1 pc = .ok (.ifCond .gt off, 3)) (ht : (pc : Int) + off = (tgt : Int)) (hp : pc + 3 = pc') (kt : 0 < a → VW M x R Q K P J I cs n tgt L S) (kf : a ≤ 0 → VW M x R Q K P J I cs n pc' L S) : VW M x R Q K P J I cs n pc L (vI a :: S) := by
  subst hp
  intro p l e s m args below meth c D ad0 ad K0 dom H locs ls X hl
  have wa : inR a := X.2.2.2.2.1.hd
  refine lv_if_gt X.1.1 X.1.2.1 d ht (fun q => kt ((i32_lt inR0 wa).mp q) p l e s m args below meth c D ad0 ad K0 dom H locs ls (X.re X.2.2.2.2.1.tl X.2.2.2.2.2.1) hl) (fun q => kf (Int.not_lt.mp (fun z => q ((i32_lt inR0 wa).mpr z))) p l e s m args below meth c D ad0 ad K0 dom H locs ls (X.re X.2.2.2.2.1.tl X.2.2.2.2.2.1) hl)
theorem VW.icmp_le {a b : Int} {off : Int} {tgt : Nat} (d : decode M.2.1 pc = .ok (.if_icmp .le off, 3)) (ht : (pc : Int) + off = (tgt : Int)) (hp : pc + 3 = pc') (kt : a ≤ b → VW M x R Q K P J I cs n tgt L S) (kf : b < a → VW M x R Q K P J I cs n pc' L S) : VW M x R Q K P J I cs n pc L (vI b :: vI a :: S) := by
  subst hp
  intro p l e s m args below meth c D ad0 ad K0 dom H locs ls X hl
  have wb : inR b := X.2.2.2.2.1.hd
  have wa : inR a := X.2.2.2.2.1.tl.hd
  refine lv_icmp_le X.1.1 X.1.2.1 d ht (fun q => kt ((i32_le wa wb).mp q) p l e s m args below meth c D ad0 ad K0 dom H locs ls (X.re X.2.2.2.2.1.tl.tl X.2.2.2.2.2.1) hl) (fun q => kf (Int.not_le.mp (fun z => q ((i32_le wa wb).mpr z))) p l e s m args below meth c D ad0 ad K0 dom H locs ls (X.re X.2.2.2.2.1.tl.tl X.2.2.2.2.2.1) hl)
theorem VW.if_le {a : Int} {off : Int} {tgt : Nat} (d : decode M.2.1 pc = .ok (.ifCond .le off, 3)) (ht : (pc : Int) + off = (tgt : Int)) (hp : pc + 3 = pc') (kt : a ≤ 0 → VW M x R Q K P J I cs n tgt L S) (kf : 0 < a → VW M x R Q K P J I cs n pc' L S) : VW M x R Q K P J I cs n pc L (vI a :: S) := by
  subst hp
  intro p l e s m args below meth c D ad0 ad K0 dom H locs ls X hl
  have wa : inR a := X.2.2.2.2.1.hd
  refine lv_if_le X.1.1 X.1.2.1 d ht (fun q => kt ((i32_le wa inR0).mp q) p l e s m args below meth c D ad0 ad K0 dom H locs ls (X.re X.2.2.2.2.1.tl X.2.2.2.2.2.1) hl) (fun q => kf (Int.not_le.mp (fun z => q ((i32_le wa inR0).mpr z))) p l e s m args below meth c D ad0 ad K0 dom H locs ls (X.re X.2.2.2.2.1.tl X.2.2.2.2.2.1) hl)
theorem VW.ifnull {o : Nat} {off : Int} (d : decode M.2.1 pc = .ok (.ifnull off, 3)) (hp : pc + 3 = pc') (k : VW M x R Q K P J I cs n pc' L S) : VW M x R Q K P J I cs n pc L (vR (some o) :: S) := by
  subst hp
  exact VW.go k (fun X hl kk => lv_ifnull X.1.1 X.1.2.1 d (kk _ X.2.2.2.2.1.tl X.2.2.2.2.2.1 hl))
theorem VW.ifnullN {off : Int} (d : decode M.2.1 pc = .ok (.ifnull off, 3)) (ht : (pc : Int) + off = (pc' : Int)) (k : VW M x R Q K P J I cs n pc' L S) : VW M x R Q K P J I cs n pc L (vR none :: S) :=
  VW.go k (fun X hl kk => lv_ifnullN X.1.1 X.1.2.1 d ht (kk _ X.2.2.2.2.1.tl X.2.2.2.2.2.1 hl))
theorem VW.ifnonnull {o : Nat} {off : Int} (d : decode M.2.1 pc = .ok (.ifnonnull off, 3)) (ht : (pc : Int) + off = (pc' : Int)) (k : VW M x R Q K P J I cs n pc' L S) : VW M x R Q K P J I cs n pc L (vR (some o) :: S) :=
  VW.go k (fun X hl kk => lv_ifnonnull X.1.1 X.1.2.1 d ht (kk _ X.2.2.2.2.1.tl X.2.2.2.2.2.1 hl))
theorem VW.ifnonnullN {off : Int} (d : decode M.2.1 pc = .ok (.ifnonnull off, 3)) (hp : pc + 3 = pc') (k : VW M x R Q K P J I cs n pc' L S) : VW M x R Q K P J I cs n pc L (vR none :: S) := by
  subst hp
  exact VW.go k (fun X hl kk => lv_ifnonnullN X.1.1 X.1.2.1 d (kk _ X.2.2.2.2.1.tl X.2.2.2.2.2.1 hl))
theorem VW.tsIn {a lo hi dflt : Int} {offs : Array Int} {len tgt : Nat} {off : Int} (d : decode M.2.1 pc = .ok (.tableswitch dflt lo hi offs, len)) (h1 : lo ≤ a) (h2 : a ≤ hi) (ho : offs[(a - lo).toNat]? = some off) (ht : (pc : Int) + off = (tgt : Int)) (k : VW M x R Q K P J I cs n tgt L S) : VW M x R Q K P J I cs n pc L (vI a :: S) := by
  refine VW.go k (fun X hl kk => ?_)
  have wa : inR a := X.2.2.2.2.1.hd
  exact lv_tableIn X.1.1 X.1.2.1 d (by rw [r32 wa]; omega) (by rw [r32 wa]; omega) (by rw [r32 wa]; exact ho) ht (kk _ X.2.2.2.2.1.tl X.2.2.2.2.2.1 hl)
theorem VW.tsOut {a lo hi dflt : Int} {offs : Array Int} {len tgt : Nat} (d : decode M.2.1 pc = .ok (.tableswitch dflt lo hi offs, len)) (h : a < lo ∨ hi < a) (ht : (pc : Int) + dflt = (tgt : Int)) (k : VW M x R Q K P J I cs n tgt L S) : VW M x R Q K P J I cs n pc L (vI a :: S) := by
  refine VW.go k (fun X hl kk => ?_)
  have wa : inR a := X.2.2.2.2.1.hd
  exact lv_tableOut X.1.1 X.1.2.1 d (by rw [r32 wa]; exact h) ht (kk _ X.2.2.2.2.1.tl X.2.2.2.2.2.1 hl)
/-- what the walk knows of its values: they are numbers of 32 bits -/
theorem VW.know (k : WF K P J I → WFs K S → WFl K L → VW M x R Q K P J I cs n pc L S) : VW M x R Q K P J I cs n pc L S := by
  intro p l e s m args below meth c D ad0 ad K0 dom H locs ls X hl
  exact k X.2.2.2.1 X.2.2.2.2.1 X.2.2.2.2.2.1 p l e s m args below meth c D ad0 ad K0 dom H locs ls X hl
end Rules
