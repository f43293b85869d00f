/-! the same rows, as a program writes them: places of fields as numbers, what is read under a name, calls whose end is known exactly -/
/-- an end that is known exactly -/
def ex (K : KT) (P : PT) (J I : IT) (rr : Option AV ⊕ String) : PQ := fun r K' P' J' I' => r = rr ∧ K' = K ∧ P' = P ∧ J' = J ∧ I' = I
theorem ex_rf {K : KT} {P : PT} {J I : IT} {rr : Option AV ⊕ String} : ex K P J I rr rr K P J I := ⟨rfl, rfl, rfl, rfl, rfl⟩
section D
variable {M : MD} {x : Bool} {R : Room} {Q : PQ} {K : KT} {P : PT} {J I : IT} {cs n pc pc' : Nat} {L : List (Nat × AV)} {S St : List AV}
theorem VW.gI {C : String} {T : u_T} {N ci k o n0 j : Nat} {k' : Int} {z : Int} (d : decode M.2.1 pc = .ok (.getfield j, 3)) (hp : pc + 3 = pc') (hlk : Cond.fieldLink M.1.cls j (T k).1 (T k).2.1 (T k).2.2.1 ∈ TB) (hin : ∀ w ∈ u_ws C T N, w ∈ TB) (hc : classes[ci]? = some (C, T, N)) (hk : Nat.ble (k + 1) N = true) (hr : isP ci k = false) (hk' : (k : Int) = k')
    (ho : K o = some (ci, n0)) (hv : I o k' = z) (kk : VW M x R Q K P J I cs n pc' L (vI z :: S)) : VW M x R Q K P J I cs n pc L (vR (some o) :: S) := by
  subst hv
  subst hk'
  exact VW.getI d hp hlk hin hc hk hr ho kk
theorem VW.gP {C : String} {T : u_T} {N ci k o n0 j : Nat} {k' : Int} {z : Option Nat} (d : decode M.2.1 pc = .ok (.getfield j, 3)) (hp : pc + 3 = pc') (hlk : Cond.fieldLink M.1.cls j (T k).1 (T k).2.1 (T k).2.2.1 ∈ TB) (hin : ∀ w ∈ u_ws C T N, w ∈ TB) (hc : classes[ci]? = some (C, T, N)) (hk : Nat.ble (k + 1) N = true) (hr : isP ci k = true) (hk' : (k : Int) = k')
    (ho : K o = some (ci, n0)) (hv : P o k' = z) (kk : VW M x R Q K P J I cs n pc' L (vR z :: S)) : VW M x R Q K P J I cs n pc L (vR (some o) :: S) := by
  subst hv
  subst hk'
  exact VW.getP d hp hlk hin hc hk hr ho kk
theorem VW.pI {C : String} {T : u_T} {N ci k o n0 j : Nat} {ty : Nat → FieldType} {k' : Int} {z : Int} (d : decode M.2.1 pc = .ok (.putfield j, 3)) (hp : pc + 3 = pc') (hlk : Cond.fieldLink M.1.cls j (T k).1 (T k).2.1 (T k).2.2.1 ∈ TB) (hin : ∀ w ∈ u_ws C T N, w ∈ TB) (hty : ∀ k, k < N → parseFieldDescriptor (T k).2.2.1 = some (ty k)) (hnm : ∀ a, a < N → ∀ b, b < N → a ≠ b → (T a).2.1 ≠ (T b).2.1)
    (hc : classes[ci]? = some (C, T, N)) (hk : Nat.ble (k + 1) N = true) (hr : isP ci k = false) (hk' : (k : Int) = k') (hfin : (T k).2.2.2 = false) (ht : ty k = .int) (ho : K o = some (ci, n0)) (kk : VW M x R Q K P J (up2 I o k' z) cs n pc' L S) : VW M x R Q K P J I cs n pc L (vI z :: vR (some o) :: S) := by
  subst hk'
  exact VW.putI d hp hlk hin hty hnm hc hk hr hfin ht ho kk
theorem VW.pIF {C : String} {T : u_T} {N ci k o n0 j : Nat} {ty : Nat → FieldType} {k' : Int} {z : Int} (d : decode M.2.1 pc = .ok (.putfield j, 3)) (hp : pc + 3 = pc') (hlk : Cond.fieldLink M.1.cls j (T k).1 (T k).2.1 (T k).2.2.1 ∈ TB) (hin : ∀ w ∈ u_ws C T N, w ∈ TB) (hty : ∀ k, k < N → parseFieldDescriptor (T k).2.2.1 = some (ty k)) (hnm : ∀ a, a < N → ∀ b, b < N → a ≠ b → (T a).2.1 ≠ (T b).2.1)
    (hc : classes[ci]? = some (C, T, N)) (hk : Nat.ble (k + 1) N = true) (hr : isP ci k = false) (hk' : (k : Int) = k') (hfin : (T k).2.2.2 = true) (hini : M.1.name = "<init>") (hdl : (T k).1 = M.1.cls) (ht : ty k = .int) (ho : K o = some (ci, n0)) (kk : VW M x R Q K P J (up2 I o k' z) cs n pc' L S) : VW M x R Q K P J I cs n pc L (vI z :: vR (some o) :: S) := by
  subst hk'
  exact VW.putIF d hp hlk hin hty hnm hc hk hr hfin hini hdl ht ho kk
theorem VW.pZ {C : String} {T : u_T} {N ci k o n0 j : Nat} {ty : Nat → FieldType} {k' : Int} {z : Int} (d : decode M.2.1 pc = .ok (.putfield j, 3)) (hp : pc + 3 = pc') (hlk : Cond.fieldLink M.1.cls j (T k).1 (T k).2.1 (T k).2.2.1 ∈ TB) (hin : ∀ w ∈ u_ws C T N, w ∈ TB) (hty : ∀ k, k < N → parseFieldDescriptor (T k).2.2.1 = some (ty k)) (hnm : ∀ a, a < N → ∀ b, b < N → a ≠ b → (T a).2.1 ≠ (T b).2.1)
    (hc : classes[ci]? = some (C, T, N)) (hk : Nat.ble (k + 1) N = true) (hr : isP ci k = false) (hk' : (k : Int) = k') (hfin : (T k).2.2.2 = false) (ht : ty k = .boolean) (hz : z = 0 ∨ z = 1) (ho : K o = some (ci, n0)) (kk : VW M x R Q K P J (up2 I o k' z) cs n pc' L S) : VW M x R Q K P J I cs n pc L (vI z :: vR (some o) :: S) := by
  subst hk'
  exact VW.putZ d hp hlk hin hty hnm hc hk hr hfin ht hz ho kk
theorem VW.pZF {C : String} {T : u_T} {N ci k o n0 j : Nat} {ty : Nat → FieldType} {k' : Int} {z : Int} (d : decode M.2.1 pc = .ok (.putfield j, 3)) (hp : pc + 3 = pc') (hlk : Cond.fieldLink M.1.cls j (T k).1 (T k).2.1 (T k).2.2.1 ∈ TB) (hin : ∀ w ∈ u_ws C T N, w ∈ TB) (hty : ∀ k, k < N → parseFieldDescriptor (T k).2.2.1 = some (ty k)) (hnm : ∀ a, a < N → ∀ b, b < N → a ≠ b → (T a).2.1 ≠ (T b).2.1)
    (hc : classes[ci]? = some (C, T, N)) (hk : Nat.ble (k + 1) N = true) (hr : isP ci k = false) (hk' : (k : Int) = k') (hfin : (T k).2.2.2 = true) (hini : M.1.name = "<init>") (hdl : (T k).1 = M.1.cls) (ht : ty k = .boolean) (hz : z = 0 ∨ z = 1) (ho : K o = some (ci, n0)) (kk : VW M x R Q K P J (up2 I o k' z) cs n pc' L S) : VW M x R Q K P J I cs n pc L (vI z :: vR (some o) :: S) := by
  subst hk'
  exact VW.putZF d hp hlk hin hty hnm hc hk hr hfin hini hdl ht hz ho kk
theorem VW.pP {C : String} {T : u_T} {N ci k o n0 j : Nat} {ty : Nat → FieldType} {k' : Int} {r : Option Nat} (d : decode M.2.1 pc = .ok (.putfield j, 3)) (hp : pc + 3 = pc') (hlk : Cond.fieldLink M.1.cls j (T k).1 (T k).2.1 (T k).2.2.1 ∈ TB) (hin : ∀ w ∈ u_ws C T N, w ∈ TB) (hty : ∀ k, k < N → parseFieldDescriptor (T k).2.2.1 = some (ty k)) (hnm : ∀ a, a < N → ∀ b, b < N → a ≠ b → (T a).2.1 ≠ (T b).2.1)
    (hc : classes[ci]? = some (C, T, N)) (hk : Nat.ble (k + 1) N = true) (hr : isP ci k = true) (hk' : (k : Int) = k') (hfin : (T k).2.2.2 = false) (ht : (∃ q, ty k = .object q) ∨ ∃ q, ty k = .array q) (ho : K o = some (ci, n0)) (kk : VW M x R Q K (up2 P o k' r) J I cs n pc' L S) : VW M x R Q K P J I cs n pc L (vR r :: vR (some o) :: S) := by
  subst hk'
  exact VW.putP d hp hlk hin hty hnm hc hk hr hfin ht ho kk
theorem VW.pPF {C : String} {T : u_T} {N ci k o n0 j : Nat} {ty : Nat → FieldType} {k' : Int} {r : Option Nat} (d : decode M.2.1 pc = .ok (.putfield j, 3)) (hp : pc + 3 = pc') (hlk : Cond.fieldLink M.1.cls j (T k).1 (T k).2.1 (T k).2.2.1 ∈ TB) (hin : ∀ w ∈ u_ws C T N, w ∈ TB) (hty : ∀ k, k < N → parseFieldDescriptor (T k).2.2.1 = some (ty k)) (hnm : ∀ a, a < N → ∀ b, b < N → a ≠ b → (T a).2.1 ≠ (T b).2.1)
    (hc : classes[ci]? = some (C, T, N)) (hk : Nat.ble (k + 1) N = true) (hr : isP ci k = true) (hk' : (k : Int) = k') (hfin : (T k).2.2.2 = true) (hini : M.1.name = "<init>") (hdl : (T k).1 = M.1.cls) (ht : (∃ q, ty k = .object q) ∨ ∃ q, ty k = .array q) (ho : K o = some (ci, n0)) (kk : VW M x R Q K (up2 P o k' r) J I cs n pc' L S) : VW M x R Q K P J I cs n pc L (vR r :: vR (some o) :: S) := by
  subst hk'
  exact VW.putPF d hp hlk hin hty hnm hc hk hr hfin hini hdl ht ho kk
theorem VW.ild {o N : Nat} {z : Int} {v : Int} (d : decode M.2.1 pc = .ok (.iaload, 1)) (hp : pc + 1 = pc') (ho : K o = some (100, N)) (h0 : 0 ≤ z) (h1 : z < N) (hv : I o z = v) (kk : VW M x R Q K P J I cs n pc' L (vI v :: S)) : VW M x R Q K P J I cs n pc L (vI z :: vR (some o) :: S) := by
  subst hv
  exact VW.iald d hp ho h0 h1 kk
theorem VW.zld {o N : Nat} {z : Int} {v : Int} (d : decode M.2.1 pc = .ok (.baload, 1)) (hp : pc + 1 = pc') (ho : K o = some (101, N)) (h0 : 0 ≤ z) (h1 : z < N) (hv : I o z = v) (kk : VW M x R Q K P J I cs n pc' L (vI v :: S)) : VW M x R Q K P J I cs n pc L (vI z :: vR (some o) :: S) := by
  subst hv
  exact VW.zald d hp ho h0 h1 kk
theorem VW.lld {o N : Nat} {z : Int} {v : Int} (d : decode M.2.1 pc = .ok (.laload, 1)) (hp : pc + 1 = pc') (ho : K o = some (102, N)) (h0 : 0 ≤ z) (h1 : z < N) (hv : J o z = v) (kk : VW M x R Q K P J I cs n pc' L (vJ v :: S)) : VW M x R Q K P J I cs n pc L (vI z :: vR (some o) :: S) := by
  subst hv
  exact VW.lald d hp ho h0 h1 kk
theorem VW.rld {o N : Nat} {z : Int} {v : Option Nat} (d : decode M.2.1 pc = .ok (.aaload, 1)) (hp : pc + 1 = pc') (ho : K o = some (103, N)) (h0 : 0 ≤ z) (h1 : z < N) (hv : P o z = v) (kk : VW M x R Q K P J I cs n pc' L (vR v :: S)) : VW M x R Q K P J I cs n pc L (vI z :: vR (some o) :: S) := by
  subst hv
  exact VW.rald d hp ho h0 h1 kk
theorem VW.old {o N : Nat} {z : Int} {v : Option Nat} (d : decode M.2.1 pc = .ok (.aaload, 1)) (hp : pc + 1 = pc') (ho : K o = some (104, N)) (h0 : 0 ≤ z) (h1 : z < N) (hv : P o z = v) (kk : VW M x R Q K P J I cs n pc' L (vR v :: S)) : VW M x R Q K P J I cs n pc L (vI z :: vR (some o) :: S) := by
  subst hv
  exact VW.oald d hp ho h0 h1 kk
end D
section CallD
variable {M My : MD} {x : Bool} {R Ry : Room} {Q : PQ} {K K1 : KT} {P P1 : PT} {J I J1 I1 : IT} {cs n pc pc' j : Nat} {L : List (Nat × AV)} {S St as : List AV} {v : Option AV}
/-- what a method is, for its callers: instance methods -/
def MV (M : MD) (k : Nat) : Prop := MOK M ∧ nPar M k ∧ Cond.instanceMethod M.1 ∈ TB ∧ Cond.selects M.1.cls M.1 M.1 ∈ TB
def MS (M : MD) (k : Nat) : Prop := MOK M ∧ nPar M k ∧ Cond.static M.1 ∈ TB
def MI (M : MD) (k : Nat) : Prop := MOK M ∧ nPar M k ∧ Cond.instanceMethod M.1 ∈ TB ∧ M.1.name = "<init>" ∧ M.2.2.2.1 = none
theorem VW.cV {o ci n0 k : Nat} {T : u_T} {N : Nat} (d : decode M.2.1 pc = .ok (.invokevirtual j, 3)) (hp : pc + 3 = pc') (hm : MV My k) (hl : Cond.methodLink M.1.cls j My.1 ∈ TB) (hc : classes[ci]? = some (My.1.cls, T, N)) (ho : K o = some (ci, n0)) (h8 : Nat.ble (sl S) 8 = true) (hR1 : Nat.ble (Ry.frames + 1) R.frames = true) (hR2 : Nat.ble (8 + (My.2.2.1 + 11) + Ry.locals) R.locals = true) (hcs : cs + Ry.cells ≤ R.cells) (hn : n + Ry.slots ≤ R.slots) (hs : Sp My false Ry (ex K1 P1 J1 I1 (.inl v)) K P J I (vR (some o) :: as)) (hst : St = as.reverse ++ vR (some o) :: S) (hk : as.length = k)
    (kk : VW M x R Q K1 P1 J1 I1 (cs + Ry.cells) (n + Ry.slots) pc' L (v.toList ++ S)) : VW M x R Q K P J I cs n pc L St :=
  VW.callV d hp hs hst hm.1 hm.2.1 hk hm.2.2.1 hm.2.2.2 hl hc ho h8 hR1 hR2 hcs hn (fun r K' P' J' I' h => by obtain ⟨h1, h2, h3, h4, h5⟩ := h; cases h1; subst h2; subst h3; subst h4; subst h5; exact kk)
theorem VW.cS {k : Nat} (d : decode M.2.1 pc = .ok (.invokestatic j, 3)) (hp : pc + 3 = pc') (hm : MS My k) (hl : Cond.methodLink M.1.cls j My.1 ∈ TB) (h8 : Nat.ble (sl S) 8 = true) (hR1 : Nat.ble (Ry.frames + 1) R.frames = true) (hR2 : Nat.ble (8 + (My.2.2.1 + 11) + Ry.locals) R.locals = true) (hcs : cs + Ry.cells ≤ R.cells) (hn : n + Ry.slots ≤ R.slots) (hs : Sp My false Ry (ex K1 P1 J1 I1 (.inl v)) K P J I as) (hst : St = as.reverse ++ S) (hk : as.length = k)
    (kk : VW M x R Q K1 P1 J1 I1 (cs + Ry.cells) (n + Ry.slots) pc' L (v.toList ++ S)) : VW M x R Q K P J I cs n pc L St :=
  VW.callS d hp hs hst hm.1 hm.2.1 hk hm.2.2 hl h8 hR1 hR2 hcs hn (fun r K' P' J' I' h => by obtain ⟨h1, h2, h3, h4, h5⟩ := h; cases h1; subst h2; subst h3; subst h4; subst h5; exact kk)
theorem VW.cSN {k : Nat} {host : String} (d : decode M.2.1 pc = .ok (.invokestatic j, 3)) (hp : pc + 3 = pc') (hm : MS My k) (hl : (M.1.cls, j, My.1, host) ∈ NB) (h8 : Nat.ble (sl S) 8 = true) (hR1 : Nat.ble (Ry.frames + 1) R.frames = true) (hR2 : Nat.ble (8 + (My.2.2.1 + 11) + Ry.locals) R.locals = true) (hcs : cs + Ry.cells ≤ R.cells) (hn : n + Ry.slots ≤ R.slots) (hs : Sp My false Ry (ex K1 P1 J1 I1 (.inl v)) K P J I as) (hst : St = as.reverse ++ S) (hk : as.length = k)
    (kk : VW M x R Q K1 P1 J1 I1 (cs + Ry.cells) (n + Ry.slots) pc' L (v.toList ++ S)) : VW M x R Q K P J I cs n pc L St :=
  VW.callSN d hp hs hst hm.1 hm.2.1 hk hm.2.2 hl h8 hR1 hR2 hcs hn (fun r K' P' J' I' h => by obtain ⟨h1, h2, h3, h4, h5⟩ := h; cases h1; subst h2; subst h3; subst h4; subst h5; exact kk)
theorem VW.cI {o k : Nat} (d : decode M.2.1 pc = .ok (.invokespecial j, 3)) (hp : pc + 3 = pc') (hm : MI My k) (hl : Cond.methodLink M.1.cls j My.1 ∈ TB) (h8 : Nat.ble (sl S) 8 = true) (hR1 : Nat.ble (Ry.frames + 1) R.frames = true) (hR2 : Nat.ble (8 + (My.2.2.1 + 11) + Ry.locals) R.locals = true) (hcs : cs + Ry.cells ≤ R.cells) (hn : n + Ry.slots ≤ R.slots) (hs : Sp My false Ry (ex K1 P1 J1 I1 (.inl v)) K P J I (vR (some o) :: as)) (hst : St = as.reverse ++ vR (some o) :: S) (hk : as.length = k)
    (kk : VW M x R Q K1 P1 J1 I1 (cs + Ry.cells) (n + Ry.slots) pc' L (v.toList ++ S)) : VW M x R Q K P J I cs n pc L St :=
  VW.callI d hp hs hst hm.1 hm.2.1 hk hm.2.2.1 hm.2.2.2.1 hm.2.2.2.2 hl h8 hR1 hR2 hcs hn (fun r K' P' J' I' h => by obtain ⟨h1, h2, h3, h4, h5⟩ := h; cases h1; subst h2; subst h3; subst h4; subst h5; exact kk)
theorem VW.cIN {o k : Nat} {host : String} (d : decode M.2.1 pc = .ok (.invokespecial j, 3)) (hp : pc + 3 = pc') (hm : MI My k) (hl : (M.1.cls, j, My.1, host) ∈ NB) (h8 : Nat.ble (sl S) 8 = true) (hR1 : Nat.ble (Ry.frames + 1) R.frames = true) (hR2 : Nat.ble (8 + (My.2.2.1 + 11) + Ry.locals) R.locals = true) (hcs : cs + Ry.cells ≤ R.cells) (hn : n + Ry.slots ≤ R.slots) (hs : Sp My false Ry (ex K1 P1 J1 I1 (.inl v)) K P J I (vR (some o) :: as)) (hst : St = as.reverse ++ vR (some o) :: S) (hk : as.length = k)
    (kk : VW M x R Q K1 P1 J1 I1 (cs + Ry.cells) (n + Ry.slots) pc' L (v.toList ++ S)) : VW M x R Q K P J I cs n pc L St :=
  VW.callIN d hp hs hst hm.1 hm.2.1 hk hm.2.2.1 hm.2.2.2.1 hm.2.2.2.2 hl h8 hR1 hR2 hcs hn (fun r K' P' J' I' h => by obtain ⟨h1, h2, h3, h4, h5⟩ := h; cases h1; subst h2; subst h3; subst h4; subst h5; exact kk)
end CallD
