/-! the JDK's small methods -/
abbrev rmv (f lo : Nat) : Room := { frames := f, cells := 0, slots := 0, locals := lo }
def cpyI (I : IT) (b : Nat) (sp : Int) (a : Nat) (dp n : Int) : IT := fun o k => if o = a ∧ dp ≤ k ∧ k < dp + n then I b (sp + (k - dp)) else I o k
theorem kw_native : Cond.native arraycopyName ∈ TB := tq3 31 rfl rfl
theorem kw_acs : Cond.static arraycopyName ∈ TB := tq3 30 rfl rfl
theorem cat_sum (ad : Nat → Nat) (S : List AV) : ((S.map (cv ad)).map fun v => v.category).sum = sl S := by
  induction S with
  | nil => rfl
  | cons v vs ih =>
    show (cv ad v).category + ((vs.map (cv ad)).map fun v => v.category).sum = (bif isJ v then 2 else 1) + sl vs
    rw [ih]
    congr 1
    rcases v with z | r | z
    · rfl
    · cases r <;> rfl
    · rfl
/-- locals in the order of their numbers -/
def insL (q : Nat × AV) : List (Nat × AV) → List (Nat × AV)
  | [] => [q]
  | r :: L => bif Nat.ble q.1 r.1 then q :: r :: L else r :: insL q L
def nrmL : List (Nat × AV) → List (Nat × AV)
  | [] => []
  | q :: L => insL q (nrmL L)
theorem insL_mem {q r : Nat × AV} {L : List (Nat × AV)} (h : r ∈ insL q L) : r = q ∨ r ∈ L := by
  induction L with
  | nil => simpa [insL] using h
  | cons a L ih =>
    unfold insL at h
    cases hb : Nat.ble q.1 a.1 with
    | true => rw [hb] at h; simpa using h
    | false =>
      rw [hb] at h
      rcases List.mem_cons.mp h with h | h
      · exact Or.inr (h ▸ List.mem_cons_self)
      · exact (ih h).elim Or.inl (fun z => Or.inr (List.mem_cons_of_mem _ z))
theorem nrmL_mem {r : Nat × AV} {L : List (Nat × AV)} (h : r ∈ nrmL L) : r ∈ L := by
  induction L with
  | nil => exact h
  | cons a L ih => exact (insL_mem h).elim (fun z => z ▸ List.mem_cons_self) (fun z => List.mem_cons_of_mem _ (ih z))
/-- fewer locals, in another order -/
theorem VW.loc {M : MD} {x : Bool} {R : Room} {Q : PQ} {K : KT} {P : PT} {J I : IT} {cs n pc : Nat} {L L' : List (Nat × AV)} {S : List AV} (h : ∀ q ∈ L', q ∈ L) (k : VW M x R Q K P J I cs n pc L' S) : VW M x R Q K P J I cs n pc L S :=
  VW.go k (fun {_ _ _ _ _ _ _ _ _ _ ad _ _ _ _ _ _ _} X hl kk => kk _ X.2.2.2.2.1 (fun q hq => X.2.2.2.2.2.1 q (h q hq)) ⟨hl.1, hl.2.1, fun q hq => by
    obtain ⟨r, hr, rfl⟩ := List.mem_map.mp hq
    exact hl.2.2 _ (List.mem_map.mpr ⟨r, h r hr, rfl⟩)⟩)
theorem VW.nrm {M : MD} {x : Bool} {R : Room} {Q : PQ} {K : KT} {P : PT} {J I : IT} {cs n pc : Nat} {L : List (Nat × AV)} {S : List AV} (k : VW M x R Q K P J I cs n pc (nrmL L) S) : VW M x R Q K P J I cs n pc L S := VW.loc (fun _ h => nrmL_mem h) k
/-- some locals, by their numbers -/
def pickL (L : List (Nat × AV)) (ks : List Nat) : List (Nat × AV) := ks.filterMap (fun k => (lkp L k).map (fun v => (k, v)))
theorem VW.pick {M : MD} {x : Bool} {R : Room} {Q : PQ} {K : KT} {P : PT} {J I : IT} {cs n pc : Nat} {L : List (Nat × AV)} {S : List AV} (ks : List Nat) (k : VW M x R Q K P J I cs n pc (pickL L ks) S) : VW M x R Q K P J I cs n pc L S := VW.loc (fun q hq => by
  obtain ⟨i, -, hi⟩ := List.mem_filterMap.mp hq
  cases hv : lkp L i with
  | none => rw [hv] at hi; cases hi
  | some v => rw [hv] at hi; cases hi; exact lkp_mem hv) k
/-- a truth as a number -/
noncomputable def bI (p : Prop) : Int := @ite Int p (Classical.propDecidable p) 1 0
theorem bI1 {p : Prop} (h : p) : bI p = 1 := @if_pos p (Classical.propDecidable p) h Int 1 0
theorem bI0 {p : Prop} (h : ¬ p) : bI p = 0 := @if_neg p (Classical.propDecidable p) h Int 1 0
theorem bI_cases (p : Prop) : (p ∧ bI p = 1) ∨ (¬ p ∧ bI p = 0) := (Classical.em p).elim (fun h => Or.inl ⟨h, bI1 h⟩) (fun h => Or.inr ⟨h, bI0 h⟩)
theorem bIn {p : Prop} (h : bI p ≠ 0) : p := (bI_cases p).elim (fun q => q.1) (fun q => absurd q.2 h)
theorem bIe {p : Prop} (h : bI p = 0) : ¬ p := fun q => by rw [bI1 q] at h; cases h
theorem bIc {p q : Prop} (h : p ↔ q) : bI p = bI q := by rw [propext h]
theorem bI_01 (p : Prop) : bI p = 0 ∨ bI p = 1 := (bI_cases p).elim (fun q => Or.inr q.2) (fun q => Or.inl q.2)
theorem narZ {z : Int} (h : z = 0 ∨ z = 1) : narrow .boolean (.int (Int32.ofInt z)) = .int (Int32.ofInt z) := by rcases h with rfl | rfl <;> rfl
/-- 'is = is || g(k)', from lo on -/
def orI (g : Int → Prop) (lo k is : Int) : Prop := (is = 1 ∧ ∃ j, lo ≤ j ∧ j < k ∧ g j) ∨ (is = 0 ∧ ∀ j, lo ≤ j → j < k → ¬ g j)
theorem orI.z {g : Int → Prop} {lo : Int} : orI g lo lo 0 := Or.inr ⟨rfl, fun j h1 h2 => by omega⟩
theorem orI.keep {g : Int → Prop} {lo k is : Int} (h : orI g lo k is) (hn : is ≠ 0) : orI g lo (k + 1) 1 := by
  rcases h with ⟨-, j, h1, h2, h3⟩ | ⟨h, -⟩
  · exact Or.inl ⟨rfl, j, h1, by omega, h3⟩
  · exact absurd h hn
theorem orI.hit {g : Int → Prop} {lo k : Int} (h0 : lo ≤ k) (hg : g k) : orI g lo (k + 1) 1 := Or.inl ⟨rfl, k, h0, by omega, hg⟩
theorem orI.no {g : Int → Prop} {lo k is : Int} (h : orI g lo k is) (he : is = 0) (hg : ¬ g k) : orI g lo (k + 1) 0 := by
  rcases h with ⟨h, -⟩ | ⟨-, h⟩
  · omega
  · exact Or.inr ⟨rfl, fun j h1 h2 h3 => by
      by_cases e : j = k
      · subst e; exact hg h3
      · exact h j h1 (by omega) h3⟩
theorem orI.bI {g : Int → Prop} {lo k is : Int} (h : orI g lo k is) : is = bI (∃ j, lo ≤ j ∧ j < k ∧ g j) := by
  rcases h with ⟨e, h⟩ | ⟨e, h⟩
  · rw [bI1 h, e]
  · rw [bI0 (fun ⟨j, h1, h2, h3⟩ => h j h1 h2 h3), e]
/-- 'is = is && g(k)', from lo on -/
def andI (g : Int → Prop) (lo k is : Int) : Prop := (is = 1 ∧ ∀ j, lo ≤ j → j < k → g j) ∨ (is = 0 ∧ ∃ j, lo ≤ j ∧ j < k ∧ ¬ g j)
theorem andI.z {g : Int → Prop} {lo : Int} : andI g lo lo 1 := Or.inl ⟨rfl, fun j h1 h2 => by omega⟩
theorem andI.keep {g : Int → Prop} {lo k is : Int} (h : andI g lo k is) (hn : is = 0) : andI g lo (k + 1) 0 := by
  rcases h with ⟨h, -⟩ | ⟨-, j, h1, h2, h3⟩
  · omega
  · exact Or.inr ⟨rfl, j, h1, by omega, h3⟩
theorem andI.no {g : Int → Prop} {lo k : Int} (h0 : lo ≤ k) (hg : ¬ g k) : andI g lo (k + 1) 0 := Or.inr ⟨rfl, k, h0, by omega, hg⟩
theorem andI.yes {g : Int → Prop} {lo k is : Int} (h : andI g lo k is) (hn : is ≠ 0) (hg : g k) : andI g lo (k + 1) 1 := by
  rcases h with ⟨-, h⟩ | ⟨h, -⟩
  · exact Or.inl ⟨rfl, fun j h1 h2 => by
      by_cases e : j = k
      · subst e; exact hg
      · exact h j h1 (by omega)⟩
  · exact absurd h hn
theorem andI.same {g : Int → Prop} {lo k is : Int} (h : andI g lo k is) (hg : g k) : andI g lo (k + 1) is := by
  rcases h with ⟨e, h⟩ | ⟨e, j, h1, h2, h3⟩
  · exact Or.inl ⟨e, fun j h1 h2 => by
      by_cases e : j = k
      · subst e; exact hg
      · exact h j h1 (by omega)⟩
  · exact Or.inr ⟨e, j, h1, by omega, h3⟩
theorem andI.bI {g : Int → Prop} {lo k is : Int} (h : andI g lo k is) : is = bI (∀ j, lo ≤ j → j < k → g j) := by
  rcases h with ⟨e, h⟩ | ⟨e, j, h1, h2, h3⟩
  · rw [bI1 h, e]
  · rw [bI0 (fun h => h3 (h j h1 h2)), e]
/-- the first of n numbers from p on that is so; -1 if none is -/
noncomputable def fs (g : Int → Prop) (p : Int) : Nat → Int
  | 0 => -1
  | n + 1 => @ite Int (g p) (Classical.propDecidable _) p (fs g (p + 1) n)
theorem fs_yes {g : Int → Prop} {p : Int} {n : Nat} (h : g p) : fs g p (n + 1) = p := @if_pos (g p) (Classical.propDecidable _) h Int p _
theorem fs_no {g : Int → Prop} {p : Int} {n : Nat} (h : ¬ g p) : fs g p (n + 1) = fs g (p + 1) n := @if_neg (g p) (Classical.propDecidable _) h Int p _
theorem fs_spec (g : Int → Prop) : ∀ (n : Nat) (p : Int), (fs g p n = -1 ∧ ∀ j, p ≤ j → j < p + n → ¬ g j) ∨ (p ≤ fs g p n ∧ fs g p n < p + n ∧ g (fs g p n) ∧ ∀ j, p ≤ j → j < fs g p n → ¬ g j)
  | 0, p => Or.inl ⟨rfl, fun j h1 h2 => by omega⟩
  | n + 1, p => by
    by_cases h : g p
    · rw [fs_yes h]
      exact Or.inr ⟨by omega, by omega, h, fun j h1 h2 => by omega⟩
    · rw [fs_no h]
      have e : ∀ j, p ≤ j → ¬ (p + 1 ≤ j) → ¬ g j := fun j h1 h2 => by rw [show j = p by omega]; exact h
      rcases fs_spec g n (p + 1) with ⟨h1, h2⟩ | ⟨h1, h2, h3, h4⟩
      · exact Or.inl ⟨h1, fun j q1 q2 => by
          by_cases z : p + 1 ≤ j
          · exact h2 j z (by omega)
          · exact e j q1 z⟩
      · exact Or.inr ⟨by omega, by omega, h3, fun j q1 q2 => by
          by_cases z : p + 1 ≤ j
          · exact h4 j z q2
          · exact e j q1 z⟩
section
variable {M : MD} {x : Bool} {R : Room} {Q : PQ} {K : KT} {P : PT} {J I : IT} {cs m pc pc' j : Nat} {L : List (Nat × AV)} {S : List AV}
theorem VW.copyi {a b n0 n1 : Nat} {sp dp n : Int} (d : decode M.2.1 pc = .ok (.invokestatic j, 3)) (hp : pc + 3 = pc') (hl : Cond.methodLink M.1.cls j arraycopyName ∈ TB) (hb : K b = some (100, n0)) (ha : K a = some (100, n1)) (h1 : 0 ≤ sp) (h2 : 0 ≤ dp) (h3 : 0 ≤ n) (h4 : sp + n ≤ n0) (h5 : dp + n ≤ n1)
    (hf : Nat.ble 1 R.frames = true) (hlo : Nat.ble (sl S + 18) R.locals = true) (kk : VW M x R Q K P J (cpyI I b sp a dp n) cs m pc' L S) : VW M x R Q K P J I cs m pc L (vI n :: vI dp :: vR (some a) :: vI sp :: vR (some b) :: S) := by
  subst hp
  intro p l e s m args below meth c D ad0 ad K0 dom H locs ls X hll
  obtain ⟨i, hdi, hi⟩ := X.2.2.2.2.2.2.1.at hb (ik_n rfl rfl)
  obtain ⟨i2, hdi2, hi2⟩ := X.2.2.2.2.2.2.1.at ha (ik_n rfl rfl)
  rw [ce_I] at hi hi2
  have hko : (K a).isSome = true := by rw [ha]; rfl
  have wn : inR n := X.2.2.2.2.1.hd
  have wd : inR dp := X.2.2.2.2.1.tl.hd
  have ws : inR sp := X.2.2.2.2.1.tl.tl.tl.hd
  have en := i32_nat wn
  have ed := i32_nat wd
  have es := i32_nat ws
  have hts := X.1.2.2.2.2.2.1
  refine va_copyi X.1.1 X.1.2.1 (X.1.2.2.2.1.trans hll.1.symm) X.1.2.2.2.2.1 (hts _ hl) (hts _ kw_native) (hts _ kw_acs) (hts _ kw_initialized_java_lang_System) X.2.1 X.2.2.2.2.2.2.1.2.2.1 X.2.2.2.2.2.2.1.2.2.2 X.2.2.2.2.2.2.2.1 i i2 0 0 hi hi2 rfl rfl rfl
    (by rw [i32_zero, i32_lt ws inR0]; omega) (by rw [i32_zero, i32_lt wd inR0]; omega) (by rw [i32_zero, i32_lt wn inR0]; omega) (by rw [es, en]; omega) (by rw [ed, en]; omega) (fun _ _ => rfl) (Nat.le_of_ble_eq_true hf) (by rw [cat_sum]; exact Nat.le_of_ble_eq_true hlo) d (fun H1 locs1 hP hD hS => ?_)
  have e1 : va_cpy (fun (k : Nat) => Int32.ofInt (I b (k : Int))) (fun (k : Nat) => Int32.ofInt (I a (k : Int))) (Int32.ofInt sp).toNatClampNeg (Int32.ofInt dp).toNatClampNeg (Int32.ofInt n).toNatClampNeg = fun (k : Nat) => Int32.ofInt (cpyI I b sp a dp n a (k : Int)) := by
    funext k
    unfold va_cpy cpyI
    rw [en, ed, es]
    by_cases hk : dp.toNat ≤ k ∧ k < dp.toNat + n.toNat
    · rw [if_pos hk, if_pos ⟨rfl, by omega, by omega⟩]
      show Int32.ofInt (I b ((sp.toNat + (k - dp.toNat) : Nat) : Int)) = _
      rw [show ((sp.toNat + (k - dp.toNat) : Nat) : Int) = sp + ((k : Int) - dp) by omega]
    · rw [if_neg hk, if_neg (by rintro ⟨-, h, h'⟩; omega)]
  rw [e1] at hP hD
  have hR := X.2.2.2.2.2.2.1.set (P' := P) (J' := J) (I' := cpyI I b sp a dp n) ha hdi2 (by rw [ce_I]) (fun o' ho' k' => if_neg (fun q => ho' q.1)) (fun _ _ _ => rfl) (fun _ _ _ => rfl) hP hD
  obtain ⟨x1, x2, x3, x4, x5, x6, x7, x8, x9⟩ := X
  have hw : WF K P J (cpyI I b sp a dp n) := by
    refine ⟨fun o k => ?_, x4.2.1, x4.2.2.1, fun o hn => ⟨fun k => ?_, (x4.2.2.2 o hn).2⟩⟩
    · unfold cpyI; split
      · exact x4.1 _ _
      · exact x4.1 _ _
    · unfold cpyI
      rw [if_neg (fun q => by rw [q.1] at hn; rw [hn] at hko; cases hko)]
      exact (x4.2.2.2 o hn).1 k
  exact kk p l e s m args below meth c D ad0 ad K0 dom H1 locs1 ls ⟨x1, x2, x3, hw, x5.tl.tl.tl.tl.tl, x6, hR, hS, x9⟩ hll
theorem VW.mm {a b : Int} {y : MethodName} (mx : Bool) (hy : y = if mx then Lib.Math.max.name else Lib.Math.min.name) (d : decode M.2.1 pc = .ok (.invokestatic j, 3)) (hp : pc + 3 = pc') (hl : Cond.methodLink M.1.cls j y ∈ TB) (hf : Nat.ble 1 R.frames = true) (hlo : Nat.ble (sl S + 13) R.locals = true) (hc : cs ≤ R.cells) (hn : m ≤ R.slots)
    (kk : VW M x R Q K P J I cs m pc' L (vI (if mx then (if a < b then b else a) else (if b < a then b else a)) :: S)) : VW M x R Q K P J I cs m pc L (vI b :: vI a :: S) := by
  subst hp
  subst hy
  refine VW.go kk (fun {p l e s m args below meth c D ad0 ad K0 dom H locs ls Qf} X hll kk => ?_)
  have wb : inR b := X.2.2.2.2.1.hd
  have wa : inR a := X.2.2.2.2.1.tl.hd
  have hts := X.1.2.2.2.2.2.1
  cases mx with
  | true =>
    have q := kk ls (WFs.cons (show inR (if a < b then b else a) by split; exact wb; exact wa) X.2.2.2.2.1.tl.tl) X.2.2.2.2.2.1 hll
    refine va_mmax X.1.1 X.1.2.1 (X.1.2.2.2.1.trans hll.1.symm) X.1.2.2.2.2.1 (hts _ hl) (hts _ ms_java_lang_Math_max.2.2) (hts _ kw_initialized_java_lang_Math) (hts _ ms_java_lang_Math_max.1.1) (Nat.le_of_ble_eq_true hf) (by rw [cat_sum]; exact Nat.le_of_ble_eq_true hlo) hc hn d ?_
    have e : (if Int32.ofInt a < Int32.ofInt b then Int32.ofInt b else Int32.ofInt a) = Int32.ofInt (if a < b then b else a) := by
      by_cases h : a < b
      · rw [if_pos h, if_pos ((i32_lt wa wb).mpr h)]
      · rw [if_neg h, if_neg (fun z => h ((i32_lt wa wb).mp z))]
    rw [e]; exact q
  | false =>
    have q := kk ls (WFs.cons (show inR (if b < a then b else a) by split; exact wb; exact wa) X.2.2.2.2.1.tl.tl) X.2.2.2.2.2.1 hll
    refine va_mmin X.1.1 X.1.2.1 (X.1.2.2.2.1.trans hll.1.symm) X.1.2.2.2.2.1 (hts _ hl) (hts _ ms_java_lang_Math_min.2.2) (hts _ kw_initialized_java_lang_Math) (hts _ ms_java_lang_Math_min.1.1) (Nat.le_of_ble_eq_true hf) (by rw [cat_sum]; exact Nat.le_of_ble_eq_true hlo) hc hn d ?_
    have e : (if Int32.ofInt b < Int32.ofInt a then Int32.ofInt b else Int32.ofInt a) = Int32.ofInt (if b < a then b else a) := by
      by_cases h : b < a
      · rw [if_pos h, if_pos ((i32_lt wb wa).mpr h)]
      · rw [if_neg h, if_neg (fun z => h ((i32_lt wb wa).mp z))]
    rw [e]; exact q
end
section
variable {K : KT} {P : PT} {J I : IT}
def cmpI (a b : Int) : Int := if a < b then -1 else if a = b then 0 else 1
theorem sp_compare {a b : Int} : Sp m_java_lang_Integer_compare false (rmv 0 0) (ex K P J I (.inl (some (vI (cmpI a b))))) K P J I [vI a, vI b] := by
  refine Sp.ofV (by decide) (Or.inr rfl) rfl ?_
  refine VW.iload_n (pc' := 1) d_java_lang_Integer_compare_0 rfl rfl ?_
  refine VW.iload_n (pc' := 2) d_java_lang_Integer_compare_1 rfl rfl ?_
  refine VW.icmp_ge (tgt := 9) (pc' := 5) d_java_lang_Integer_compare_2 rfl rfl (fun c2 => ?_) (fun c2 => ?_)
  · refine VW.iload_n (pc' := 10) d_java_lang_Integer_compare_9 rfl rfl ?_
    refine VW.iload_n (pc' := 11) d_java_lang_Integer_compare_10 rfl rfl ?_
    refine VW.icmp_ne (tgt := 18) (pc' := 14) d_java_lang_Integer_compare_11 rfl rfl (fun c11 => ?_) (fun c11 => ?_)
    · refine VW.iconst (pc' := 19) d_java_lang_Integer_compare_18 rfl (by decide) ?_
      exact VW.iret d_java_lang_Integer_compare_19 rfl rfl (Nat.zero_le _) (Nat.zero_le _) (by unfold cmpI; first | (rw [if_pos c2]; exact ex_rf) | (rw [if_neg (by omega), if_pos c11]; exact ex_rf) | (rw [if_neg (by omega), if_neg c11]; exact ex_rf))
    · refine VW.iconst (pc' := 15) d_java_lang_Integer_compare_14 rfl (by decide) ?_
      refine VW.goto (pc' := 19) d_java_lang_Integer_compare_15 rfl ?_
      exact VW.iret d_java_lang_Integer_compare_19 rfl rfl (Nat.zero_le _) (Nat.zero_le _) (by unfold cmpI; first | (rw [if_pos c2]; exact ex_rf) | (rw [if_neg (by omega), if_pos c11]; exact ex_rf) | (rw [if_neg (by omega), if_neg c11]; exact ex_rf))
  · refine VW.iconst (pc' := 6) d_java_lang_Integer_compare_5 rfl (by decide) ?_
    refine VW.goto (pc' := 19) d_java_lang_Integer_compare_6 rfl ?_
    exact VW.iret d_java_lang_Integer_compare_19 rfl rfl (Nat.zero_le _) (Nat.zero_le _) (by unfold cmpI; first | (rw [if_pos c2]; exact ex_rf) | (rw [if_neg (by omega), if_pos c11]; exact ex_rf) | (rw [if_neg (by omega), if_neg c11]; exact ex_rf))
/-- a stretch filled -/
def filI (I : IT) (a : Nat) (lo hi v : Int) : IT := fun o k => if o = a ∧ lo ≤ k ∧ k < hi then v else I o k
theorem filI_step {I : IT} {a : Nat} {lo hi v : Int} (h : lo ≤ hi) : up2 (filI I a lo hi v) a hi v = filI I a lo (hi + 1) v := by
  funext o k
  unfold up2 filI
  by_cases h1 : o = a ∧ k = hi
  · rw [if_pos h1, if_pos ⟨h1.1, by omega, by omega⟩]
  · rw [if_neg h1]
    by_cases h2 : o = a ∧ lo ≤ k ∧ k < hi
    · rw [if_pos h2, if_pos ⟨h2.1, by omega, by omega⟩]
    · rw [if_neg h2, if_neg (fun q => h2 ⟨q.1, q.2.1, by have : ¬ k = hi := fun e => h1 ⟨q.1, e⟩; omega⟩)]
theorem filI_0 {I : IT} {a : Nat} {lo hi v : Int} (h : hi ≤ lo) : filI I a lo hi v = I := by
  funext o k
  exact if_neg (by omega)
theorem sp_fill {a n : Nat} {v : Int} (ha : K a = some (100, n)) (hn : (n : Int) ≤ 2147483647) : Sp m_java_util_Arrays_fill false (rmv 0 0) (ex K P J (filI I a 0 n v) (.inl none)) K P J I [vR (some a), vI v] := by
  refine Sp.ofV (by decide) (Or.inr rfl) rfl ?_
  have loop : ∀ (m : Nat) (p : Int), p + m = n → 0 ≤ p → VW m_java_util_Arrays_fill false (rmv 0 0) (ex K P J (filI I a 0 n v) (.inl none)) K P J (filI I a 0 p v) 0 0 5 [(0, vR (some a)), (1, vI v), (2, vI p), (3, vI n)] [] := by
    intro m
    induction m with
    | zero =>
      intro p hp hq
      refine VW.iload_n (pc' := 6) d_java_util_Arrays_fill_5 rfl rfl ?_
      refine VW.iload_n (pc' := 7) d_java_util_Arrays_fill_6 rfl rfl ?_
      refine VW.icmp_ge (tgt := 20) (pc' := 10) d_java_util_Arrays_fill_7 rfl rfl (fun c7 => ?_) (fun c7 => ?_)
      · exact VW.vret d_java_util_Arrays_fill_20 rfl (Nat.zero_le _) (Nat.zero_le _) (by rw [show p = (n : Int) by omega]; exact ex_rf)
      · exfalso; omega
    | succ m ih =>
      intro p hp hq
      refine VW.iload_n (pc' := 6) d_java_util_Arrays_fill_5 rfl rfl ?_
      refine VW.iload_n (pc' := 7) d_java_util_Arrays_fill_6 rfl rfl ?_
      refine VW.icmp_ge (tgt := 20) (pc' := 10) d_java_util_Arrays_fill_7 rfl rfl (fun c7 => ?_) (fun c7 => ?_)
      · exfalso; omega
      · refine VW.aload_n (pc' := 11) d_java_util_Arrays_fill_10 rfl rfl ?_
        refine VW.iload_n (pc' := 12) d_java_util_Arrays_fill_11 rfl rfl ?_
        refine VW.iload_n (pc' := 13) d_java_util_Arrays_fill_12 rfl rfl ?_
        refine VW.iast (pc' := 14) d_java_util_Arrays_fill_13 rfl (by assumption) (by omega) (by omega) ?_
        refine VW.nrm ?_
        rw [filI_step hq]
        refine VW.iinc (pc' := 17) d_java_util_Arrays_fill_14 rfl rfl rfl (by omega) ?_
        refine VW.goto (pc' := 5) d_java_util_Arrays_fill_17 rfl ?_
        refine VW.nrm ?_
        exact ih (p + 1) (by omega) (by omega)
  refine VW.iconst (pc' := 1) d_java_util_Arrays_fill_0 rfl (by decide) ?_
  refine VW.istore_n (pc' := 2) d_java_util_Arrays_fill_1 rfl rfl ?_
  refine VW.aload_n (pc' := 3) d_java_util_Arrays_fill_2 rfl rfl ?_
  refine VW.alen (pc' := 4) d_java_util_Arrays_fill_3 rfl (by assumption) (by simp) (by omega) ?_
  refine VW.istore_n (pc' := 5) d_java_util_Arrays_fill_4 rfl rfl ?_
  refine VW.nrm ?_
  have h := loop n 0 (by omega) (by omega)
  rw [filI_0 (hi := 0) (Int.le_refl 0)] at h
  exact h
theorem sp_rangeCheck {n lo hi : Int} (h0 : 0 ≤ lo) (h1 : lo ≤ hi) (h2 : hi ≤ n) : Sp m_java_util_Arrays_rangeCheck false (rmv 0 0) (ex K P J I (.inl none)) K P J I [vI n, vI lo, vI hi] := by
  refine Sp.ofV (by decide) (Or.inr rfl) rfl ?_
  refine VW.iload_n (pc' := 1) d_java_util_Arrays_rangeCheck_0 rfl rfl ?_
  refine VW.iload_n (pc' := 2) d_java_util_Arrays_rangeCheck_1 rfl rfl ?_
  refine VW.icmp_le (tgt := 46) (pc' := 5) d_java_util_Arrays_rangeCheck_2 rfl rfl (fun c2 => ?_) (fun c2 => ?_)
  · refine VW.iload_n (pc' := 47) d_java_util_Arrays_rangeCheck_46 rfl rfl ?_
    refine VW.if_ge (tgt := 59) (pc' := 50) d_java_util_Arrays_rangeCheck_47 rfl rfl (fun c47 => ?_) (fun c47 => ?_)
    · refine VW.iload_n (pc' := 60) d_java_util_Arrays_rangeCheck_59 rfl rfl ?_
      refine VW.iload_n (pc' := 61) d_java_util_Arrays_rangeCheck_60 rfl rfl ?_
      refine VW.icmp_le (tgt := 73) (pc' := 64) d_java_util_Arrays_rangeCheck_61 rfl rfl (fun c61 => ?_) (fun c61 => ?_)
      · exact VW.vret d_java_util_Arrays_rangeCheck_73 rfl (Nat.zero_le _) (Nat.zero_le _) ex_rf
      · exfalso; omega
    · exfalso; omega
  · exfalso; omega
theorem sp_fill4 {a n : Nat} {lo hi v : Int} (ha : K a = some (100, n)) (hn : (n : Int) ≤ 2147483647) (h0 : 0 ≤ lo) (h1 : lo ≤ hi) (h2 : hi ≤ n) : Sp m_java_util_Arrays_fill_IIIIV false (rmv 1 22) (ex K P J (filI I a lo hi v) (.inl none)) K P J I [vR (some a), vI lo, vI hi, vI v] := by
  refine Sp.ofV (by decide) (Or.inr rfl) rfl ?_
  have loop : ∀ (m : Nat) (p : Int), p + m = hi → lo ≤ p → VW m_java_util_Arrays_fill_IIIIV false (rmv 1 22) (ex K P J (filI I a lo hi v) (.inl none)) K P J (filI I a lo p v) 0 0 10 [(0, vR (some a)), (1, vI lo), (2, vI hi), (3, vI v), (4, vI p)] [] := by
    intro m
    induction m with
    | zero =>
      intro p hp hq
      refine VW.iload (pc' := 12) d_java_util_Arrays_fill_IIIIV_10 rfl rfl ?_
      refine VW.iload_n (pc' := 13) d_java_util_Arrays_fill_IIIIV_12 rfl rfl ?_
      refine VW.icmp_ge (tgt := 27) (pc' := 16) d_java_util_Arrays_fill_IIIIV_13 rfl rfl (fun c13 => ?_) (fun c13 => ?_)
      · exact VW.vret d_java_util_Arrays_fill_IIIIV_27 rfl (Nat.zero_le _) (Nat.zero_le _) (by rw [show p = hi by omega]; exact ex_rf)
      · exfalso; omega
    | succ m ih =>
      intro p hp hq
      refine VW.iload (pc' := 12) d_java_util_Arrays_fill_IIIIV_10 rfl rfl ?_
      refine VW.iload_n (pc' := 13) d_java_util_Arrays_fill_IIIIV_12 rfl rfl ?_
      refine VW.icmp_ge (tgt := 27) (pc' := 16) d_java_util_Arrays_fill_IIIIV_13 rfl rfl (fun c13 => ?_) (fun c13 => ?_)
      · exfalso; omega
      · refine VW.aload_n (pc' := 17) d_java_util_Arrays_fill_IIIIV_16 rfl rfl ?_
        refine VW.iload (pc' := 19) d_java_util_Arrays_fill_IIIIV_17 rfl rfl ?_
        refine VW.iload_n (pc' := 20) d_java_util_Arrays_fill_IIIIV_19 rfl rfl ?_
        refine VW.iast (pc' := 21) d_java_util_Arrays_fill_IIIIV_20 rfl (by assumption) (by omega) (by omega) ?_
        refine VW.nrm ?_
        rw [filI_step hq]
        refine VW.iinc (pc' := 24) d_java_util_Arrays_fill_IIIIV_21 rfl rfl rfl (by omega) ?_
        refine VW.goto (pc' := 10) d_java_util_Arrays_fill_IIIIV_24 rfl ?_
        refine VW.nrm ?_
        exact ih (p + 1) (by omega) (by omega)
  refine VW.aload_n (pc' := 1) d_java_util_Arrays_fill_IIIIV_0 rfl rfl ?_
  refine VW.alen (pc' := 2) d_java_util_Arrays_fill_IIIIV_1 rfl (by assumption) (by simp) (by omega) ?_
  refine VW.iload_n (pc' := 3) d_java_util_Arrays_fill_IIIIV_2 rfl rfl ?_
  refine VW.iload_n (pc' := 4) d_java_util_Arrays_fill_IIIIV_3 rfl rfl ?_
  refine VW.cS (pc' := 7) d_java_util_Arrays_fill_IIIIV_4 rfl ms_java_util_Arrays_rangeCheck lk_java_util_Arrays_13 rfl rfl rfl (Nat.le_refl _) (Nat.le_refl _) (sp_rangeCheck h0 h1 h2) rfl rfl ?_
  refine VW.iload_n (pc' := 8) d_java_util_Arrays_fill_IIIIV_7 rfl rfl ?_
  refine VW.istore (pc' := 10) d_java_util_Arrays_fill_IIIIV_8 rfl rfl ?_
  refine VW.nrm ?_
  have h := loop (hi - lo).toNat lo (by omega) (by omega)
  rw [filI_0 (hi := lo) (Int.le_refl lo)] at h
  exact h
end
