/-! what a crash leaves to undo -/
section
variable {I S T U : IT} {n N g k i x : Nat} {lv mv : Nat → Nat} {q : Int}
def hsR (S : IT) (j : Int) (m : Nat) (w : Int) : Prop := ∃ r : Nat, r < m ∧ S 246 r = w ∧ S 247 r = j
def lfR (S : IT) (j : Int) (m : Nat) : Prop := hsR S j m 0 ∧ ¬ hsR S j m 1 ∧ ¬ hsR S j m 3
noncomputable def lfN (S : IT) (m : Nat) (j : Nat) : Nat := @ite _ (lfR S j m) (Classical.propDecidable _) ((unM S j m).length - nUn S j m + 1) 0
theorem lfN_y {m j : Nat} (h : lfR S j m) : lfN S m j = (unM S j m).length - nUn S j m + 1 := if_pos h
theorem lfN_n {m j : Nat} (h : ¬ lfR S j m) : lfN S m j = 0 := if_neg h
theorem hsR_up {j w : Int} {m : Nat} (h : hsR S j m w) : hsR S j (m + 1) w := by
  obtain ⟨r, a, b⟩ := h
  exact ⟨r, by omega, b⟩
theorem hsR_dn {j w : Int} {m : Nat} (h : hsR S j (m + 1) w) (hn : ¬ (S 246 m = w ∧ S 247 m = j)) : hsR S j m w := by
  obtain ⟨r, a, b⟩ := h
  by_cases e : r = m
  · subst e; exact absurd b hn
  · exact ⟨r, by omega, b⟩
theorem nUn_y {j : Int} {m : Nat} (h : S 246 m = 2 ∧ S 247 m = j) : nUn S j (m + 1) = nUn S j m + 1 := by
  unfold nUn
  have a := cntI_yes (g := mUnG S j) (n := m) h
  have := (cntI_rg (mUnG S j) m).1
  omega
theorem nUn_no {j : Int} {m : Nat} (h : ¬ (S 246 m = 2 ∧ S 247 m = j)) : nUn S j (m + 1) = nUn S j m := by
  unfold nUn
  have a := cntI_no (g := mUnG S j) (n := m) h
  omega
theorem unM_y {j : Int} {m : Nat} (h : S 246 m = 0 ∧ S 247 m = j) : (unM S j (m + 1)).length = (unM S j m).length + 1 := by
  have e : unM S j (m + 1) = (2, j, S 248 m, S 249 m) :: unM S j m := if_pos h
  rw [e, List.length_cons]
theorem unM_no {j : Int} {m : Nat} (h : ¬ (S 246 m = 0 ∧ S 247 m = j)) : (unM S j (m + 1)).length = (unM S j m).length := by
  have e : unM S j (m + 1) = unM S j m := if_neg h
  rw [e]
/-- one record more -/
theorem lf_oth {m j : Nat} (h : S 247 m ≠ j) : lfN S (m + 1) j = lfN S m j := by
  have e : ∀ w, hsR S j (m + 1) w ↔ hsR S j m w := fun w => ⟨fun z => hsR_dn z (fun y => h y.2), hsR_up⟩
  by_cases y : lfR S j m
  · have y' : lfR S j (m + 1) := by unfold lfR at *; rw [e, e, e]; exact y
    rw [lfN_y y, lfN_y y', unM_no (fun z => h z.2), nUn_no (fun z => h z.2)]
  · have y' : ¬ lfR S j (m + 1) := by unfold lfR at *; rw [e, e, e]; exact y
    rw [lfN_n y, lfN_n y']
theorem lf_own {m j : Nat} (ho : S 247 m = j) (hk : S 246 m = 0 ∨ S 246 m = 2 ∨ (S 246 m = 3 ∧ (unM S j m).length ≤ nUn S j m)) : lfN S m j ≤ lfN S (m + 1) j + 1 := by
  by_cases y : lfR S j m
  · rw [lfN_y y]
    rcases hk with z | z | ⟨z, w⟩
    · have y' : lfR S j (m + 1) := ⟨hsR_up y.1, fun u => y.2.1 (hsR_dn u (fun v => by omega)), fun u => y.2.2 (hsR_dn u (fun v => by omega))⟩
      rw [lfN_y y', unM_y ⟨z, ho⟩, nUn_no (fun v => by omega)]
      omega
    · have y' : lfR S j (m + 1) := ⟨hsR_up y.1, fun u => y.2.1 (hsR_dn u (fun v => by omega)), fun u => y.2.2 (hsR_dn u (fun v => by omega))⟩
      rw [lfN_y y', unM_no (fun v => by omega), nUn_y ⟨z, ho⟩]
      omega
    · omega
  · rw [lfN_n y]; exact Nat.zero_le _
def tT (_ : Nat) : Prop := True
theorem lf_step {m : Nat} (ho : 0 ≤ S 247 m ∧ S 247 m < n) (hk : S 246 m = 0 ∨ S 246 m = 2 ∨ (S 246 m = 3 ∧ (unM S (S 247 m) m).length ≤ nUn S (S 247 m) m)) : oS tT (lfN S m) n ≤ oS tT (lfN S (m + 1)) n + 1 := by
  obtain ⟨j, hj⟩ : ∃ j : Nat, S 247 m = j := ⟨(S 247 m).toNat, by omega⟩
  rw [hj] at hk
  have jn : j < n := by omega
  have a := lf_own hj hk
  rw [oS_rm (f := lfN S m) (p := tT) trivial n jn, oS_rm (f := lfN S (m + 1)) (p := tT) trivial n jn]
  rw [oS_eq (p := fun k => tT k ∧ k ≠ j) (p' := fun k => tT k ∧ k ≠ j) (f := lfN S m) (g := lfN S (m + 1)) n (fun l hl => ⟨Iff.rfl, fun z => (lf_oth (by omega)).symm⟩)]
  omega
theorem lf_mono {x : Nat} : ∀ d : Nat, (∀ r : Nat, x ≤ r → r < x + d → (0 ≤ S 247 r ∧ S 247 r < n) ∧ (S 246 r = 0 ∨ S 246 r = 2 ∨ (S 246 r = 3 ∧ (unM S (S 247 r) r).length ≤ nUn S (S 247 r) r))) → oS tT (lfN S x) n ≤ oS tT (lfN S (x + d)) n + d
  | 0, _ => Nat.le_refl _
  | d + 1, h => by
    have ih := lf_mono d (fun r r0 r1 => h r r0 (by omega))
    obtain ⟨a, b⟩ := h (x + d) (by omega) (by omega)
    have := lf_step (S := S) (n := n) (m := x + d) a b
    show _ ≤ oS tT (lfN S (x + d + 1)) n + (d + 1)
    omega
theorem oS_to {p : Nat → Prop} {f h : Nat → Nat} : ∀ n : Nat, (∀ j, j < n → (p j → f j ≤ h j) ∧ (¬ p j → f j = 0)) → oS tT f n ≤ oS p h n
  | 0, _ => Nat.le_refl _
  | n + 1, hh => by
    have ih := oS_to n (fun j hj => hh j (by omega))
    obtain ⟨a, b⟩ := hh n (by omega)
    rw [oS_y (p := tT) trivial]
    by_cases y : p n
    · rw [oS_y y]
      have := a y
      omega
    · rw [oS_n y, b y, Nat.zero_add]; exact ih
/-- in the whole log only those under way are left to undo -/
theorem lf_all (hE : ER I S n N g lv mv q) (he : EnB S) : oS tT (lfN S N) n ≤ oS (opA S) (fun j => wN S j + 1) n := by
  have s44 : S 100 44 = N := hE.cnt.2.1
  have s19 : S 100 19 = n := hE.cnt.1
  refine oS_to n (fun j hj => ⟨fun oj => ?_, fun oj => ?_⟩)
  · by_cases y : lfR S j N
    · rw [lfN_y y]
      unfold wN
      rw [s44, Int.toNat_natCast]
      omega
    · rw [lfN_n y]; exact Nat.zero_le _
  · refine lfN_n (fun ⟨y0, y1, y3⟩ => ?_)
    have ph := (hE.ph j hj).1
    unfold opA at oj
    by_cases e : S 221 j = 2
    · obtain ⟨r, r0, r1, r2, r3⟩ := ((hE.lo.2 j hj).mp e)
      exact y1 ⟨r.toNat, by omega, by rw [show ((r.toNat : Nat) : Int) = r by omega]; exact r2, by rw [show ((r.toNat : Nat) : Int) = r by omega]; exact r3⟩
    · obtain ⟨p, p1, p2, p3⟩ := y0
      obtain ⟨r, r0, r1, r2, r3⟩ := he j (by rw [s19]; omega) (by omega) ⟨p, by omega, by rw [s44]; omega, p2, p3⟩
      rw [s44] at r1
      exact y3 ⟨r.toNat, by omega, by rw [show ((r.toNat : Nat) : Int) = r by omega]; exact r2, by rw [show ((r.toNat : Nat) : Int) = r by omega]; exact r3⟩
theorem unU_len {j : Int} : ∀ (m u : Nat), (unU S j m u).length = (unM S j m).length - u
  | 0, u => by show 0 = 0 - u; omega
  | m + 1, u => by
    by_cases y : S 246 m = 0 ∧ S 247 m = j
    · rw [unM_y y]
      match u with
      | 0 => rw [unU_0 y, List.length_cons, unU_len m 0]; omega
      | u + 1 => rw [unU_1 y, unU_len m u]; omega
    · rw [unM_no y, unU_no y, unU_len m u]
/-- what the crash writes, first ones first -/
def CrI (S T : IT) (x k : Nat) (U : IT) (M : Nat) : Prop := U 100 44 = (M : Int) ∧ M = x + oS tT (lfN S x) k ∧ (∀ r : Int, r < x → U 246 r = S 246 r ∧ U 247 r = S 247 r ∧ U 248 r = S 248 r ∧ U 249 r = S 249 r) ∧ (∀ r : Int, (x : Int) ≤ r → r < M → (U 246 r = 2 ∨ U 246 r = 3) ∧ 0 ≤ U 247 r ∧ U 247 r < k) ∧ (∀ j : Nat, j < k → lfR S j x → ∃ r : Int, (x : Int) ≤ r ∧ r < M ∧ U 246 r = 3 ∧ U 247 r = j)
theorem CrI.left {M : Nat} (h : CrI S T x k U M) : mLeftG U k ↔ lfR S k x := by
  obtain ⟨h1, h2, h3, h4, -⟩ := h
  have e : ∀ w, mHas U k w ↔ hsR S k x w := fun w => by
    constructor
    · rintro ⟨r, r0, r1, r2, r3⟩
      rw [h1] at r1
      by_cases y : r < x
      · obtain ⟨a, b, -, -⟩ := h3 r y
        exact ⟨r.toNat, by omega, by rw [show ((r.toNat : Nat) : Int) = r by omega, ← a]; exact r2, by rw [show ((r.toNat : Nat) : Int) = r by omega, ← b]; exact r3⟩
      · have := (h4 r (by omega) r1).2
        omega
    · rintro ⟨r, r0, r1, r2⟩
      obtain ⟨a, b, -, -⟩ := h3 r (by omega)
      exact ⟨r, by omega, by rw [h1]; omega, a.trans r1, b.trans r2⟩
  unfold mLeftG lfR
  rw [e, e, e]
theorem CrI.step {M : Nat} (h : CrI S T x k U M) : ∃ M', CrI S T x (k + 1) (if bI (mLeftG U k) = 1 then mUndoes U k else U) M' := by
  have hl := h.left
  obtain ⟨h1, h2, h3, h4, h5⟩ := h
  by_cases y : mLeftG U k
  · rw [if_pos (bI1 y)]
    have yl := hl.mp y
    obtain ⟨hX, -⟩ := mUndoes_X (S := U) (i := (k : Int)) h1
    have xM : x ≤ M := by omega
    have lenU : (unM U k M).length = (unM S k x).length := by
      have gen : ∀ d : Nat, x + d ≤ M → (unM U k (x + d)).length = (unM S k x).length := fun d => by
        induction d with
        | zero =>
          intro _
          exact un_same x (fun r hr => ⟨(h3 r (by omega)).1, (h3 r (by omega)).2.1⟩)
        | succ d ih =>
          intro hd
          have st := unM_no (S := U) (j := (k : Int)) (m := x + d) (fun z => by
            have := (h4 ((x + d : Nat) : Int) (by omega) (by omega)).1
            omega)
          show (unM U k (x + d + 1)).length = _
          rw [st]; exact ih (by omega)
      have := gen (M - x) (by omega)
      rw [show x + (M - x) = M by omega] at this
      exact this
    have cntU : nUn U k M = nUn S k x := by
      have gen : ∀ d : Nat, x + d ≤ M → nUn U k (x + d) = nUn S k x := fun d => by
        induction d with
        | zero =>
          intro _
          exact nUn_of (fun r hr => ⟨(h3 r (by omega)).1, (h3 r (by omega)).2.1⟩)
        | succ d ih =>
          intro hd
          have st := nUn_no (S := U) (j := (k : Int)) (m := x + d) (fun z => by
            have := (h4 ((x + d : Nat) : Int) (by omega) (by omega)).2
            omega)
          show nUn U k (x + d + 1) = _
          rw [st]; exact ih (by omega)
      have := gen (M - x) (by omega)
      rw [show x + (M - x) = M by omega] at this
      exact this
    have len : (crL U k M).length = (unM S k x).length - nUn S k x + 1 := by
      unfold crL
      rw [List.length_append, unU_len, lenU, cntU]; rfl
    have old : ∀ r : Int, r < M → mUndoes U k 246 r = U 246 r ∧ mUndoes U k 247 r = U 247 r ∧ mUndoes U k 248 r = U 248 r ∧ mUndoes U k 249 r = U 249 r := fun r hr => hX.2.2.1 r (by omega)
    have new : ∀ r : Int, (M : Int) ≤ r → r < ((M + (crL U k M).length : Nat) : Int) → (mUndoes U k 246 r = 2 ∨ mUndoes U k 246 r = 3) ∧ mUndoes U k 247 r = k := fun r r0 r1 => by
      obtain ⟨z, hz, e1, e2, -⟩ := new_rec hX r0 r1
      have m := crL_mem hz
      rw [e1, e2]
      exact m
    refine ⟨M + (crL U k M).length, hX.2.1, ?_, fun r hr => ?_, fun r r0 r1 => ?_, fun j hj hjl => ?_⟩
    · rw [oS_y (p := tT) trivial, lfN_y yl, len]; omega
    · obtain ⟨a, b, c, d⟩ := old r (by omega)
      obtain ⟨a', b', c', d'⟩ := h3 r hr
      exact ⟨a.trans a', b.trans b', c.trans c', d.trans d'⟩
    · by_cases z : r < M
      · obtain ⟨a, b, -, -⟩ := old r z
        have := h4 r r0 z
        rw [a, b]
        exact ⟨this.1, this.2.1, by omega⟩
      · have := new r (by omega) r1
        refine ⟨this.1, ?_, ?_⟩
        · rw [this.2]; omega
        · rw [this.2]; omega
    · by_cases e : j = k
      · subst e
        have last : (crL U j M)[(unU U j M (nUn U j M)).length]? = some (3, (j : Int), -2147483648, -2147483648) := by
          unfold crL
          rw [List.getElem?_append_right (Nat.le_refl _), Nat.sub_self]; rfl
        obtain ⟨c1, c2, -, -⟩ := hX.2.2.2 _ _ last
        have : (unU U j M (nUn U j M)).length < (crL U j M).length := by
          unfold crL
          rw [List.length_append]; exact Nat.lt_succ_self _
        exact ⟨_, by omega, by omega, c1, c2⟩
      · obtain ⟨r, r0, r1, r2, r3⟩ := h5 j (by omega) hjl
        obtain ⟨a, b, -, -⟩ := old r r1
        exact ⟨r, r0, by omega, a.trans r2, b.trans r3⟩
  · rw [if_neg (by rw [bI0 y]; decide)]
    have yl : ¬ lfR S k x := fun z => y (hl.mpr z)
    refine ⟨M, h1, ?_, h3, fun r r0 r1 => ?_, fun j hj hjl => ?_⟩
    · rw [oS_y (p := tT) trivial, lfN_n yl]; omega
    · have := h4 r r0 r1
      exact ⟨this.1, this.2.1, by omega⟩
    · by_cases e : j = k
      · subst e; exact absurd hjl yl
      · exact h5 j (by omega) hjl
theorem cr_all (hT : T 100 44 = (x : Int)) (hr : ∀ r : Int, T 246 r = S 246 r ∧ T 247 r = S 247 r ∧ T 248 r = S 248 r ∧ T 249 r = S 249 r) : ∀ k : Nat, ∃ M, CrI S T x k (mCr2 T k).1 M
  | 0 => ⟨x, hT, rfl, fun r _ => hr r, fun r r0 r1 => by omega, fun j hj => absurd hj (Nat.not_lt_zero j)⟩
  | k + 1 => by
    obtain ⟨M, h⟩ := cr_all hT hr k
    have st := h.step
    by_cases y : mLeftG (mCr2 T k).1 k
    · rw [if_pos (bI1 y)] at st
      rw [mCr2_yes y]; exact st
    · rw [if_neg (by rw [bI0 y]; decide)] at st
      rw [mCr2_no y]; exact st
end
