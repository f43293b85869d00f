/-! The machine seen as numbers: a heap is four functions (K: what a name is, P: references, J: longs, I: ints), a name is a place that the walk chose. -/
abbrev inR (z : Int) : Prop := -2147483648 ≤ z ∧ z ≤ 2147483647
abbrev inJ (z : Int) : Prop := -9223372036854775808 ≤ z ∧ z ≤ 9223372036854775807
abbrev AV : Type := Int ⊕ (Option Nat ⊕ Int)
abbrev vI (z : Int) : AV := Sum.inl z
abbrev vR (r : Option Nat) : AV := Sum.inr (Sum.inl r)
abbrev vJ (z : Int) : AV := Sum.inr (Sum.inr z)
def cv (ad : Nat → Nat) (v : AV) : Value := match v with
  | .inl z => .int (Int32.ofInt z)
  | .inr (.inl r) => va_rf (r.map ad)
  | .inr (.inr z) => .long (Int64.ofInt z)
abbrev KT : Type := Nat → Option (Nat × Nat)
abbrev PT : Type := Nat → Int → Option Nat
abbrev IT : Type := Nat → Int → Int
abbrev GD : Type := (Nat → ClassId) × (Nat → Nat → Nat) × (Nat → ClassId) × Nat × (Nat × Nat × (Nat → Int32))
abbrev MD : Type := MethodName × ByteArray × Nat × Option FieldType × List (Nat × Nat × Nat × Nat)
abbrev PQ : Type := (Option AV ⊕ String) → KT → PT → IT → IT → Prop
/-- one place changed -/
def up2 {α : Type} (f : Nat → Int → α) (o : Nat) (k : Int) (v : α) : Nat → Int → α := fun o' k' => if o' = o ∧ k' = k then v else f o' k'
def upK (K : KT) (o : Nat) (v : Nat × Nat) : KT := fun o' => if o' = o then some v else K o'
/-- what lies at a name -/
def ce (D : GD) (ad : Nat → Nat) (P : PT) (J I : IT) (o : Nat) (kd : Nat × Nat) : va_E :=
  if kd.1 < 13 then .inr (kd.1, (List.range (nF kd.1)).map (fun k => if isP kd.1 k then va_rf ((P o (k : Int)).map ad) else .int (Int32.ofInt (I o (k : Int)))))
  else if kd.1 = 13 then .inr (12, [.ref D.2.2.2.1, .int (Int32.ofInt (I o 1)), .int (Int32.ofInt (I o 2))])
  else if kd.1 = 100 then .inl (D.2.2.1 0, kd.2, .inl (fun j => Int32.ofInt (I o (j : Int))))
  else if kd.1 = 101 then .inl (D.2.2.1 1, kd.2, .inl (fun j => Int32.ofInt (I o (j : Int))))
  else if kd.1 = 102 then .inl (D.2.2.1 2, kd.2, .inr (.inl (fun j => Int64.ofInt (J o (j : Int)))))
  else if kd.1 = 103 then .inl (D.2.2.1 3, kd.2, .inr (.inr (.inr (.inr (fun j => (P o (j : Int)).map ad)))))
  else .inl (D.2.2.1 4, kd.2, .inr (.inr (.inr (.inr (fun j => (P o (j : Int)).map ad)))))
def wl (D : GD) (ad : Nat → Nat) (dom : List Nat) (K : KT) (P : PT) (J I : IT) : va_W := dom.map (fun o => (ad o, ce D ad P J I o ((K o).getD (0, 0))))
def tysOf (D : GD) : List (ClassId × FieldType) := [(D.2.2.1 0, .int), (D.2.2.1 1, .boolean), (D.2.2.1 2, .long), (D.2.2.1 3, .object "RowForge$Relation"), (D.2.2.1 4, .object "java/lang/Object")]
def WF (K : KT) (P : PT) (J I : IT) : Prop :=
  (∀ o k, inR (I o k)) ∧ (∀ o k, inJ (J o k)) ∧ (∀ o k q, P o k = some q → (K q).isSome = true) ∧ ∀ o, K o = none → (∀ k, I o k = 0) ∧ (∀ k, J o k = 0) ∧ ∀ k, P o k = none
def WFv (K : KT) (v : AV) : Prop := match v with
  | .inl z => inR z
  | .inr (.inl r) => ∀ q, r = some q → (K q).isSome = true
  | .inr (.inr z) => inJ z
def WFs (K : KT) (S : List AV) : Prop := ∀ v ∈ S, WFv K v
def WFl (K : KT) (L : List (Nat × AV)) : Prop := ∀ q ∈ L, WFv K q.2
/-- names that stand outside: the JDK's shared empty array, the law's script -/
def ou (K : KT) (o : Nat) : Prop := o = 999 ∨ ∃ n, K o = some (14, n)
/-- where they stand -/
def OR (D : GD) (ad : Nat → Nat) (K : KT) (I : IT) : Prop :=
  (K 999 = some (104, 0) ∧ ad 999 = D.2.2.2.1) ∧ (∀ o n, K o = some (14, n) → o = 49 ∧ ad o = D.2.2.2.2.1 ∧ n = D.2.2.2.2.2.1 ∧ ∀ j : Nat, Int32.ofInt (I o (j : Int)) = D.2.2.2.2.2.2 j) ∧
  D.2.2.2.1 ≠ D.2.2.2.2.1 ∧ ∀ o, (K o).isSome = true → ¬ ou K o → ad o ≠ D.2.2.2.1 ∧ ad o ≠ D.2.2.2.2.1
def Rep (D : GD) (A : Nat → Prop) (ad : Nat → Nat) (dom : List Nat) (K : KT) (P : PT) (J I : IT) (H : Heap) : Prop :=
  dom.Nodup ∧ ((∀ o, o ∈ dom ↔ (K o).isSome = true ∧ ¬ ou K o) ∧ OR D ad K I) ∧ va_P (D.1, D.2.1) classes (wl D ad dom K P J I) H ∧ va_D A (wl D ad dom K P J I)
/-- what a method may change: what it was given, and what is new -/
def AF (ad : Nat → Nat) (K : KT) (sz : Nat) : Nat → Prop := fun q => (∃ o, (K o).isSome = true ∧ ¬ ou K o ∧ q = ad o) ∨ sz ≤ q
/-- an empty array of references -/
def va_XO (b : Nat) (U : State) (H : Heap) : Prop := ∃ scr : Cell, H[b]? = some scr ∧ U.isArrayOf scr (.object "java/lang/Object") ∧ scr.vm ≠ .unknown ∧ scr.slots.size = 0
/-- what stands outside: the shared empty array, the script -/
def ZO (D : GD) (A : Nat → Prop) (U : State) (H : Heap) : Prop :=
  (va_XO D.2.2.2.1 U H ∧ D.2.2.2.1 < H.size ∧ ¬ A D.2.2.2.1) ∧ va_X D.2.2.2.2.1 D.2.2.2.2.2.1 D.2.2.2.2.2.2 U H ∧ D.2.2.2.2.1 < H.size ∧ ¬ A D.2.2.2.2.1
/-- statics of the JDK's that stand outside -/
def ZF (D : GD) (A : Nat → Prop) (U : State) (H : Heap) : Prop :=
  vx_Zq Bundle.tN "UNASSIGNED_STACK" Bundle.steD A U H ∧ vx_Zq Bundle.tN "SUPPRESSED_SENTINEL" Bundle.listD A U H ∧
  va_Z "java/util/ArrayList" "DEFAULTCAPACITY_EMPTY_ELEMENTDATA" "[Ljava/lang/Object;" (.ref D.2.2.2.1) A U H ∧ ZO D A U H
def NB : List (String × Nat × MethodName × String) := [("RowForge$Engine", 27, (⟨"RowForge$Log", "<init>", "()V"⟩ : MethodName), "RowForge"), ("RowForge$Evaluator", 32, (⟨"RowForge$Relation", "<init>", "()V"⟩ : MethodName), "RowForge"), ("RowForge", 34, (⟨"RowForge$Planner", "<init>", "()V"⟩ : MethodName), "RowForge"), ("RowForge", 54, (⟨"RowForge$Relation", "<init>", "()V"⟩ : MethodName), "RowForge"), ("RowForge", 65, (⟨"RowForge$Query", "<init>", "()V"⟩ : MethodName), "RowForge"), ("RowForge$Schema", 51, (⟨"RowForge", "compared", "(III)I"⟩ : MethodName), "RowForge"), ("RowForge$Engine", 95, (⟨"RowForge", "isNumber", "(I)Z"⟩ : MethodName), "RowForge"), ("RowForge$Evaluator", 138, (⟨"RowForge", "compared", "(III)I"⟩ : MethodName), "RowForge")]
def NC : List (String × String) := [("[I", "java/lang/Cloneable"), ("java/lang/IllegalArgumentException", "java/lang/IllegalArgumentException"), ("[B", "java/lang/Cloneable"), ("java/lang/ArrayIndexOutOfBoundsException", "java/lang/ArrayIndexOutOfBoundsException"), ("java/lang/IllegalStateException", "java/lang/IllegalStateException"), ("java/lang/IndexOutOfBoundsException", "java/lang/IndexOutOfBoundsException"), ("java/lang/ArithmeticException", "java/lang/ArithmeticException"), ("java/lang/ArrayIndexOutOfBoundsException", "java/lang/IndexOutOfBoundsException"), ("RowForge$Relation", "java/lang/Object"), ("RowForge", "java/lang/Object"), ("RowForge$Schema", "java/lang/Object"), ("RowForge$Engine", "java/lang/Object"), ("RowForge$Rows", "java/lang/Object"), ("java/util/ArrayList", "java/lang/Object"), ("RowForge$Log", "java/lang/Object"), ("RowForge$Trial", "java/lang/Object"), ("RowForge$Evaluator", "java/lang/Object"), ("RowForge$Planner", "java/lang/Object"), ("RowForge$Query", "java/lang/Object"), ("RowForgeModel", "java/lang/Object"), ("java/lang/IllegalArgumentException", "java/lang/Object"), ("java/lang/IllegalStateException", "java/lang/Object"), ("java/lang/ArrayIndexOutOfBoundsException", "java/lang/Object"), ("java/lang/IndexOutOfBoundsException", "java/lang/Object"), ("RowForge$Transaction", "java/lang/Object"), ("java/lang/StringBuilder", "java/lang/Object"), ("java/lang/String", "java/lang/Object"), ("java/lang/ArithmeticException", "java/lang/Object"), ("java/lang/Throwable", "java/lang/Object"), ("[I", "java/lang/Object"), ("[Z", "java/lang/Object"), ("[LRowForge$Relation;", "java/lang/Object"), ("[B", "java/lang/Object"), ("[Ljava/lang/Object;", "java/lang/Object"), ("[J", "java/lang/Object")]
def ND : List MethodName := [(⟨"java/lang/RuntimeException", "<init>", "()V"⟩ : MethodName), (⟨"java/lang/RuntimeException", "<init>", "(Ljava/lang/String;)V"⟩ : MethodName), (⟨"java/lang/Exception", "<init>", "()V"⟩ : MethodName), (⟨"java/lang/Exception", "<init>", "(Ljava/lang/String;)V"⟩ : MethodName), (⟨"java/lang/Throwable", "<init>", "()V"⟩ : MethodName), (⟨"java/lang/Throwable", "<init>", "(Ljava/lang/String;)V"⟩ : MethodName), (⟨"java/lang/IndexOutOfBoundsException", "<init>", "()V"⟩ : MethodName), (⟨"java/lang/IndexOutOfBoundsException", "<init>", "(Ljava/lang/String;)V"⟩ : MethodName), (⟨"java/lang/Object", "getClass", "()Ljava/lang/Class;"⟩ : MethodName)]
def NN : List (String × String) := [("java/lang/IllegalStateException", "java/lang/IllegalArgumentException"), ("java/lang/IndexOutOfBoundsException", "java/lang/IllegalArgumentException"), ("java/lang/ArithmeticException", "java/lang/IllegalArgumentException"), ("java/lang/IllegalArgumentException", "java/lang/IllegalStateException"), ("java/lang/IndexOutOfBoundsException", "java/lang/IllegalStateException"), ("java/lang/ArithmeticException", "java/lang/IllegalStateException"), ("java/lang/IllegalArgumentException", "java/lang/IndexOutOfBoundsException"), ("java/lang/IllegalStateException", "java/lang/IndexOutOfBoundsException"), ("java/lang/ArithmeticException", "java/lang/IndexOutOfBoundsException"), ("java/lang/IllegalArgumentException", "java/lang/ArithmeticException"), ("java/lang/IllegalStateException", "java/lang/ArithmeticException"), ("java/lang/IndexOutOfBoundsException", "java/lang/ArithmeticException")]
/-- words that hold at every point, but not by being good -/
def NW (U : State) : Prop := (∀ q ∈ NB, va_Nw (.methodLinkNest q.1 q.2.1 q.2.2.1 q.2.2.2) U) ∧ (∀ q ∈ NC, va_Nw (.castable q.1 q.2) U) ∧ (∀ q ∈ ND, va_Nw (.declares q) U) ∧ (∀ q ∈ NN, va_Nc q.1 q.2 U) ∧ va_AO "RowForge$Relation" U ∧ va_AO "java/lang/Object" U ∧ ∃ mi : Nat, va_Mi "[Ljava/lang/Object;" mi U
theorem NW.warm {s U : State} (hW : s.WarmedH U.vm) (h : NW s) : NW U := ⟨fun q hq => va_Nw.warmM hW (h.1 q hq), fun q hq => va_Nw.warmC hW (h.2.1 q hq), fun q hq => va_Nw.warmD hW (h.2.2.1 q hq), fun q hq => (h.2.2.2.1 q hq).moved hW.alike, h.2.2.2.2.1.moved hW.alike, h.2.2.2.2.2.1.moved hW.alike, h.2.2.2.2.2.2.elim (fun mi hm => ⟨mi, hm.moved hW.alike⟩)⟩
theorem NW.same {s U : State} (e : s.vm = U.vm) (h : NW s) : NW U := ⟨fun q hq => va_Nw.same rfl e (h.1 q hq), fun q hq => va_Nw.same rfl e (h.2.1 q hq), fun q hq => va_Nw.same rfl e (h.2.2.1 q hq), fun q hq => (h.2.2.2.1 q hq).moved (by rw [e]; exact Vm.Alike.refl U.vm), h.2.2.2.2.1.moved (by rw [e]; exact Vm.Alike.refl U.vm), h.2.2.2.2.2.1.moved (by rw [e]; exact Vm.Alike.refl U.vm), h.2.2.2.2.2.2.elim (fun mi hm => ⟨mi, hm.moved (by rw [e]; exact Vm.Alike.refl U.vm)⟩)⟩
def Ext (ad0 : Nat → Nat) (K0 : KT) (ad : Nat → Nat) (K : KT) : Prop := ∀ o, (K0 o).isSome = true → (K o).isSome = true ∧ ad o = ad0 o
def Env' (M : MD) (x : Bool) (p : Program) (l : Launch) (s : State) (m : MethodId) (args : Array Value) (meth : Method) (c : Code) : Prop :=
  p.tables.exec = Jvm.exec ∧ c.code = M.2.1 ∧ meth.sig.returnType = M.2.2.2.1 ∧ c.maxLocals = M.2.2.1 ∧ s.vm.findClass M.1.cls = some m.cls ∧ (∀ w ∈ TB, w.before args s = true) ∧ meth.locks = false ∧
  (M.1.name = "<init>" → meth.name = "<init>") ∧ l.stackTraces = false ∧ NW s ∧ (x = true → c.exceptionTable.toList = tableOf M.2.2.2.2)
def QN (Q : PQ) (D : GD) (ad0 : Nat → Nat) (K0 : KT) (sz : Nat) : Array Value → State → Outcome → State → Prop := fun _ st o t =>
  (∃ (r : Option AV) (K' : KT) (P' : PT) (J' I' : IT) (ad' : Nat → Nat) (dom' : List Nat), o = .returned (r.map (cv ad')) ∧ Q (.inl r) K' P' J' I' ∧ WF K' P' J' I' ∧ (∀ v, r = some v → WFv K' v) ∧ Ext ad0 K0 ad' K' ∧
    Rep D (AF ad0 K0 sz) ad' dom' K' P' J' I' t.heap ∧ va_K (D.1, D.2.1) classes (tysOf D) t) ∧ va_F (AF ad0 K0 sz) st t
def QX (Q : PQ) (D : GD) (ad0 : Nat → Nat) (K0 : KT) (sz : Nat) : String → State → State → Prop := fun E st t =>
  (∃ (K' : KT) (P' : PT) (J' I' : IT) (ad' : Nat → Nat) (dom' : List Nat), Q (.inr E) K' P' J' I' ∧ WF K' P' J' I' ∧ Ext ad0 K0 ad' K' ∧
    Rep D (AF ad0 K0 sz) ad' dom' K' P' J' I' t.heap ∧ va_K (D.1, D.2.1) classes (tysOf D) t) ∧ va_F (AF ad0 K0 sz) st t
def QFz (x : Bool) (Q : PQ) (D : GD) (ad0 : Nat → Nat) (K0 : KT) (below : List Frame) (args : Array Value) (s : State) (R : Room) (sz : Nat) : State → Prop :=
  match x with
  | true => vx_MQ below (QN Q D ad0 K0 sz) (QX Q D ad0 K0 sz) args s R.cells R.slots (AF ad0 K0 sz)
  | false => MQ below (QN Q D ad0 K0 sz) args s R.cells R.slots (AF ad0 K0 sz)
abbrev QF (x : Bool) (Q : PQ) (D : GD) (ad0 : Nat → Nat) (K0 : KT) (below : List Frame) (args : Array Value) (s : State) (R : Room) : State → Prop := QFz x Q D ad0 K0 below args s R s.heap.size
/-- the shared empty array of lists has the name 999 -/
def EX (D : GD) (ad0 : Nat → Nat) (K0 : KT) : Prop := (K0 999).isSome = true ∧ ad0 999 = D.2.2.2.1
def ExtD (D : GD) (ad0 : Nat → Nat) (K0 : KT) (ad : Nat → Nat) (K : KT) : Prop := Ext ad0 K0 ad K ∧ EX D ad0 K0
/-- all that stands around a walk at a point -/
def CX (M : MD) (x : Bool) (R : Room) (p : Program) (l : Launch) (s : State) (m : MethodId) (args : Array Value) (meth : Method) (c : Code) (D : GD) (ad0 ad : Nat → Nat) (K0 : KT) (dom : List Nat) (H : Heap) (locs : List Loc)
    (K : KT) (P : PT) (J I : IT) (L : List (Nat × AV)) (S : List AV) : Prop :=
  Env' M x p l s m args meth c ∧ va_K (D.1, D.2.1) classes (tysOf D) s ∧ ZF D (AF ad0 K0 s.heap.size) s s.heap ∧ WF K P J I ∧ WFs K S ∧ WFl K L ∧
  Rep D (AF ad0 K0 s.heap.size) ad dom K P J I H ∧ va_S (AF ad0 K0 s.heap.size) s.heap H locs ∧ ExtD D ad0 K0 ad K
def cl (ad : Nat → Nat) (L : List (Nat × AV)) : List (Nat × Value) := L.map (fun q => (q.1, cv ad q.2))
/-- the method M, room R, from the place pc with locals L and stack S and the heap K P J I, c cells and n slots made so far: comes to an end with Q -/
def VW (M : MD) (x : Bool) (R : Room) (Q : PQ) (K : KT) (P : PT) (J I : IT) (cs n : Nat) (pc : Nat) (L : List (Nat × AV)) (S : List AV) : Prop :=
  ∀ (p : Program) (l : Launch) (e : Env) (s : State) (m : MethodId) (args : Array Value) (below : List Frame) (meth : Method) (c : Code) (D : GD) (ad0 ad : Nat → Nat) (K0 : KT) (dom : List Nat) (H : Heap) (locs : List Loc) (ls : Array Slot),
    CX M x R p l s m args meth c D ad0 ad K0 dom H locs K P J I L S → lv_has ls M.2.2.1 (cl ad L) →
    W p l e R s m args below meth c H locs cs n (QF x Q D ad0 K0 below args s R) (F0 m pc ls (S.map (cv ad)))
