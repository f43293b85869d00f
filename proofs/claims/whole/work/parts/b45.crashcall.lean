/-! RowForge.crash -/
section
variable {K K' : KT} {P P' : PT} {J I I' S S' T : IT} {n N g lq x : Nat} {lv mv : Nat → Nat} {q y : Int} {X Y : Nat} {Q : PE}
theorem crS_at (h19 : S 100 19 = n) : (∀ o k, o ≠ 221 → o ≠ 225 → o ≠ 226 → (o ≠ 100 ∨ k ≠ 44) → mCrS S x o k = S o k) ∧ mCrS S x 100 44 = x ∧ (∀ j : Nat, j < n → mCrS S x 221 j = if S 221 j < 2 then 3 else S 221 j) ∧ (∀ j : Nat, j < n → mCrS S x 225 j = if S 221 j < 2 then -1 else S 225 j) ∧ (∀ y, mCrS S x 225 y = S 225 y ∨ mCrS S x 225 y = -1) ∧ ∀ p, mCrS S x 226 p = if bI (∃ j : Nat, j < n ∧ S 221 j < 2 ∧ S 223 j = p) = 1 then 0 else S 226 p := by
  have en : (S 100 19).toNat = n := by rw [h19]; omega
  have eZ : mCrS S x = mCr1 n (up2 S 100 44 x) := by unfold mCrS; rw [en]
  rw [eZ]
  obtain ⟨aZ, bZ, cZ⟩ := mCr1_at (S := up2 S 100 44 x) n
  have uZ : ∀ o k, o ≠ 100 → up2 S 100 44 (x : Int) o k = S o k := fun o k ho => up2_o _ _ _ _ ho
  refine ⟨fun o k h1 h2 h3 h4 => (mCr1_o n o k h1 h2 h3).trans ?_, (mCr1_o n 100 44 (by decide) (by decide) (by decide)).trans (up2_eq _ _ _ _), fun j hj => ?_, fun j hj => ?_, fun z => ?_, fun p => ?_⟩
  · rcases h4 with h4 | h4
    · exact uZ o k h4
    · by_cases ho : o = 100
      · rw [ho]; exact up2_k _ _ _ _ h4
      · exact uZ o k ho
  · rw [aZ, uZ 221 _ (by decide)]
    by_cases cZ : S 221 j < 2
    · rw [if_pos cZ, if_pos ⟨by omega, cZ⟩]
    · rw [if_neg cZ, if_neg (fun w => cZ w.2)]
  · rw [bZ, uZ 221 _ (by decide), uZ 225 _ (by decide)]
    by_cases cZ : S 221 j < 2
    · rw [if_pos cZ, if_pos ⟨by omega, cZ⟩]
    · rw [if_neg cZ, if_neg (fun w => cZ w.2)]
  · rw [bZ, uZ 225 _ (by decide)]
    split
    · exact Or.inr rfl
    · exact Or.inl rfl
  · rw [cZ, uZ 226 _ (by decide)]
    have : (∃ j : Nat, j < n ∧ up2 S 100 44 (x : Int) 221 j < 2 ∧ up2 S 100 44 (x : Int) 223 j = p) ↔ ∃ j : Nat, j < n ∧ S 221 j < 2 ∧ S 223 j = p := ⟨fun ⟨j, h1, h2, h3⟩ => ⟨j, h1, by rw [← uZ 221 _ (by decide)]; exact h2, by rw [← uZ 223 _ (by decide)]; exact h3⟩, fun ⟨j, h1, h2, h3⟩ => ⟨j, h1, by rw [uZ 221 _ (by decide)]; exact h2, by rw [uZ 223 _ (by decide)]; exact h3⟩⟩
    rw [bIc this]
/-- class and reference when the log is cut and all is ended -/
theorem cut_ex (hB : CB K P I n N g lq lv mv) (hE : ER I S n N g lv mv q) (hx : S 100 45 ≤ x ∧ x ≤ N) (hcm : ∀ r, 0 ≤ r → r < (N : Int) → S 246 r = 1 → r < S 100 45) : CB K P (cbI mv (up2 I 1192 0 (x : Int)) n) n x g lq lv mv ∧ ER (cbI mv (up2 I 1192 0 (x : Int)) n) (mCrS S x) n x g lv mv q ∧ (∀ o, ¬ nEn n o → cbI mv (up2 I 1192 0 (x : Int)) n o = I o) ∧ ∀ j, j < n → ∀ k, k ≠ 4 → k ≠ 6 → cbI mv (up2 I 1192 0 (x : Int)) n (tX j) k = I (tX j) k := by
  have n60 := hB.e.2.1
  have tx0 : ∀ j, up2 I 1192 0 (x : Int) (tX j) = I (tX j) := fun j => funext (fun k => up2_o _ _ _ _ (by unfold tX; omega))
  have uZ : ∀ o, o ≠ 1192 → up2 I 1192 0 (x : Int) o = I o := fun o ho => funext (fun k => up2_o _ _ _ _ ho)
  have co : ∀ o, o ≠ 1069 → o ≠ 1192 → (∀ j, j < n → o ≠ tX j) → cbI mv (up2 I 1192 0 (x : Int)) n o = I o := fun o a bZ cZ => (cbI_o a n cZ).trans (uZ o bZ)
  have c92 : cbI mv (up2 I 1192 0 (x : Int)) n 1192 = up2 I 1192 0 (x : Int) 1192 := cbI_o (by decide) n (fun j hj => by unfold tX; omega)
  have cx := cbI_x (mv := mv) (I := up2 I 1192 0 (x : Int)) n
  have xk : ∀ j, j < n → ∀ k, k ≠ 4 → k ≠ 6 → cbI mv (up2 I 1192 0 (x : Int)) n (tX j) k = I (tX j) k := fun j hj k a bZ => by
    rw [cx j hj k, if_neg bZ, if_neg a, tx0]
    split <;> rfl
  obtain ⟨s1Z, s2Z, s3Z, s4Z, s5, s6Z⟩ := crS_at (S := S) (x := x) hE.cnt.1
  have tx4 : ∀ j, j < n → I (tX j) 4 = S 221 j ∧ I (tX j) 6 = S 225 j := fun j hj => ⟨(hE.tx j hj).1.2.2.2.1, (hE.tx j hj).1.2.2.2.2.2⟩
  have opZ : ∀ j : Nat, j < n → ((I (tX j) 4 = 0 ∨ I (tX j) 4 = 1) ↔ S 221 j < 2) := fun j hj => by
    have := (hE.ph j hj).1
    rw [(tx4 j hj).1]
    omega
  have h4 : ∀ j, j < n → cbI mv (up2 I 1192 0 (x : Int)) n (tX j) 4 = mCrS S x 221 j ∧ cbI mv (up2 I 1192 0 (x : Int)) n (tX j) 6 = mCrS S x 225 j := fun j hj => by
    rw [cx j hj 4, cx j hj 6, tx0, s3Z j hj, s4Z j hj]
    by_cases cZ : S 221 j < 2
    · rw [if_pos ((opZ j hj).mpr cZ), if_pos ((opZ j hj).mpr cZ), if_pos cZ, if_pos cZ]
      exact ⟨rfl, rfl⟩
    · rw [if_neg (fun z => cZ ((opZ j hj).mp z)), if_neg (fun z => cZ ((opZ j hj).mp z)), if_neg cZ, if_neg cZ]
      exact tx4 j hj
  have itx : ∀ j, j < n → ∀ a, 0 < a → a < 128 → cbI mv (up2 I 1192 0 (x : Int)) n (tX j + a) = I (tX j + a) := fun j hj a a0 ha => co _ (by unfold tX; omega) (by unfold tX; omega) (fun k hk => by unfold tX; omega)
  have m15 : ∀ j, j < n → mv j < 15 := fun j hj => (hB.lev j hj).2
  refine ⟨⟨hB.c, ⟨hB.v, ?_⟩, hB.e.fr (fun o ho => ⟨rfl, rfl, co o (by omega) (by omega) (fun j hj => by unfold tX; omega)⟩) ⟨rfl, rfl⟩ (fun j hj => hB.e.tx hj), fun j hj => ?_⟩, hE.cut hB.lev hB.g10 hx hcm s1Z s2Z s3Z s4Z s5 (fun p p0 p1 => ?_) co xk h4 (fun z z0 z1 => ?_) ⟨by rw [c92, up2_eq], by rw [c92, up2_k _ _ _ _ (by decide)]⟩, fun o ho => co o (fun z => ho (by unfold nEn; omega)) (fun z => ho (by unfold nEn; omega)) (fun j hj z => ho (by unfold nEn; unfold tX at z; omega)), xk⟩
  · have := hB.l
    unfold LgN at *
    rw [c92, up2_eq]
    exact ⟨rfl, by omega⟩
  · obtain ⟨-, bZ, cZ⟩ := hB.t hj
    have l15 := hB.lev j hj
    refine ⟨?_, by rw [xk j hj 17 (by decide) (by decide)]; exact cZ⟩
    have e40 : cbI mv (up2 I 1192 0 (x : Int)) n (tX j + 40 + lv j) = I (tX j + 40 + lv j) := by rw [Nat.add_assoc]; exact itx j hj _ (by omega) (by omega)
    have e80 : cbI mv (up2 I 1192 0 (x : Int)) n (tX j + 80 + mv j) = I (tX j + 80 + mv j) := by rw [Nat.add_assoc]; exact itx j hj _ (by omega) (by omega)
    unfold TxN at *
    rw [xk j hj 14 (by decide) (by decide), xk j hj 17 (by decide) (by decide), xk j hj 13 (by decide) (by decide), e40, e80]
    exact bZ
  · rw [s6Z p]
    by_cases cZ : ∃ j : Nat, j < n ∧ S 221 j < 2 ∧ S 223 j = p
    · rw [if_pos (bI1 cZ)]
    · rw [if_neg (by rw [bI0 cZ]; decide)]
      exact Classical.byContradiction (fun z => cZ (by
        obtain ⟨j, hj, eZ⟩ := (hE.sl.2 p p0 p1).mp z
        exact ⟨j, hj.1, hj.2, eZ⟩))
  · refine cbI_w n ?_ m15
    rw [uZ 1069 (by decide)]
    refine (hE.wr.1 z z0 z1).imp id (fun ⟨j, hj, eZ⟩ => ⟨j, hj.1, ?_, ?_⟩)
    · rw [tx0]; exact (opZ j hj.1).mpr hj.2
    · have := ((hE.fp j hj).1 z z0 z1).mpr eZ
      have j15Z := m15 j hj.1
      unfold FpS at *
      rw [tx0, uZ (tX j + 80 + mv j) (by unfold tX; omega)]
      exact this
theorem comeback_ex (hB : CB K P I n N g lq lv mv) (hE : ER I S n N g lv mv q) (hx : S 100 45 ≤ x ∧ x ≤ N) (hcm : ∀ r, 0 ≤ r → r < (N : Int) → S 246 r = 1 → r < S 100 45) (hU : ∀ k : Nat, k ≤ n → (mCr2 (mCrS S x) k).1 100 44 ≤ 16383) (hY : 10 ≤ X ∧ 524288 ≤ Y) :
    SpE m_Engine_comeBack false (RmC X Y) (CrE K P J I S n g lq x lv mv q) K P J I [vR (some 1064), vI (x : Int)] := by
  have hC := hB.c
  have hL := hB.e
  have n60 := hL.2.1
  have N16 := hE.cnt.2.2.2
  have g10 := hB.g10
  obtain ⟨B1, E1Z, F1Z, X1⟩ := cut_ex hB hE hx hcm
  have en : (S 100 19).toNat = n := by rw [hE.cnt.1]; omega
  obtain ⟨s1Z, s2Z, s3Z, s4Z, s5, s6Z⟩ := crS_at (S := S) (x := x) hE.cnt.1
  have hL0 : EnL K P (up2 I 1192 0 (x : Int)) n lq lv mv := hL.fr (fun o ho => ⟨rfl, rfl, funext (fun k => up2_o _ _ _ _ (by omega))⟩) ⟨rfl, rfl⟩ (fun j hj => hL.tx hj)
  have hN0 : ∀ j, j < n → TxN (up2 I 1192 0 (x : Int)) j (lv j) (mv j) := fun j hj => (hB.t hj).2.1.fl (hB.lev j hj) (fun o ho => funext (fun k => up2_o _ _ _ _ (by unfold nTx tX at ho; omega)))
  have cW : LgW K P 1192 (12000 + g) (512 * 2 ^ g) 1196 1197 := hB.v.1
  have spC := sp_Log_cut (J := J) (I := I) (p := (x : Int)) cW
  generalize hI1 : cbI mv (up2 I 1192 0 (x : Int)) n = I1 at *
  generalize hS1 : mCrS S x = S1 at *
  have lb := E1Z.lgB B1.l g10
  have spM := sp_Log_markLeftOpen (J := J) cW lb
  have i0Z : I1 1192 0 = x := B1.l.1
  rw [show (I1 1192 0).toNat = x by rw [i0Z]; omega] at spM
  have e97Z : ∀ wZ, filI I1 1197 0 60 0 1197 wZ = if 0 ≤ wZ ∧ wZ < 60 then 0 else I1 1197 wZ := fun wZ => by
    unfold filI
    by_cases cZ : 0 ≤ wZ ∧ wZ < 60
    · rw [if_pos cZ, if_pos (by omega)]
    · rw [if_neg cZ, if_neg (by omega)]
  -- only the sixty places matter: the others of the array are looked at never
  have f0Z : ∀ o, o ≠ 1197 → filI I1 1197 0 60 0 o = I1 o := fun o ho => funext (fun k => if_neg (by omega))
  have recF : ∀ r : Nat, r < x → I1 (12000 + g) ((r : Int) * 8) = S1 246 r ∧ I1 (12000 + g) ((r : Int) * 8 + 1) = S1 247 r := fun r hr => by
    have := E1Z.lg.2 r hr
    unfold lgF at this
    rw [Int.add_zero] at this
    exact ⟨this.1, this.2.1⟩
  have hle : ∀ r p : Nat, r < p → p < x → (I1 (12000 + g) ((r : Int) * 8) = 1 ∨ I1 (12000 + g) ((r : Int) * 8) = 3) → I1 (12000 + g) ((p : Int) * 8) = 0 → I1 (12000 + g) ((p : Int) * 8 + 1) ≠ I1 (12000 + g) ((r : Int) * 8 + 1) := fun r p hrp hp aZ bZ => by
    rw [(recF r (by omega)).1] at aZ
    rw [(recF p hp).1] at bZ
    rw [(recF p hp).2, (recF r (by omega)).2]
    exact E1Z.le r p (by omega) (by omega) (by omega) aZ bZ
  have dne : 12000 + g ≠ 1197 := by omega
  -- aZ copy whose other places are 0, too
  obtain ⟨o1, o2⟩ := opn_spec (T := I1) (d := 12000 + g) (m := 1197) dne hle x 0 (fun o k => if o = 1197 then 0 else I1 o k) (by omega) (funext (fun k => if_neg dne)) (fun wZ => ⟨fun zZ => absurd (if_pos rfl) zZ, fun ⟨⟨r, hr, _⟩, _⟩ => by omega⟩)
  have sameZ : ∀ (l k : Nat) (UZ V : IT), UZ (12000 + g) = V (12000 + g) → (∀ wZ, 0 ≤ wZ → wZ < 60 → UZ 1197 wZ = V 1197 wZ) → ∀ wZ, 0 ≤ wZ → wZ < 60 → lgOpn (12000 + g) 1197 l k UZ 1197 wZ = lgOpn (12000 + g) 1197 l k V 1197 wZ := by
    intro l
    induction l with
    | zero => intro k UZ V _ hZ wZ w0Z w1Z; exact hZ wZ w0Z w1Z
    | succ l ihZ =>
      intro k UZ V hdZ hZ wZ w0Z w1Z
      unfold lgOpn
      rw [hdZ]
      have stZZ : ∀ (p v : Int), (up2 UZ 1197 p v (12000 + g) = up2 V 1197 p v (12000 + g)) ∧ ∀ wZ, 0 ≤ wZ → wZ < 60 → up2 UZ 1197 p v 1197 wZ = up2 V 1197 p v 1197 wZ := fun p v => by
        refine ⟨funext (fun zZ => by rw [up2_o _ _ _ _ dne, up2_o _ _ _ _ dne, hdZ]), fun wZ w0Z w1Z => ?_⟩
        by_cases eZ : wZ = p
        · rw [eZ, up2_eq, up2_eq]
        · rw [up2_k _ _ _ _ eZ, up2_k _ _ _ _ eZ]; exact hZ wZ w0Z w1Z
      split
      · exact ihZ _ _ _ (stZZ _ _).1 (stZZ _ _).2 wZ w0Z w1Z
      · split
        · exact ihZ _ _ _ (stZZ _ _).1 (stZZ _ _).2 wZ w0Z w1Z
        · exact ihZ _ _ _ hdZ hZ wZ w0Z w1Z
  have leftZ : ∀ i : Nat, i < n → (lgOpn (12000 + g) 1197 x 0 (filI I1 1197 0 60 0) 1197 (i : Int) ≠ 0 ↔ mLeftG S1 i) := fun i hi => by
    rw [sameZ x 0 (filI I1 1197 0 60 0) (fun o k => if o = 1197 then 0 else I1 o k) (by rw [f0Z _ dne]; exact funext (fun k => (if_neg dne).symm)) (fun wZ w0Z w1Z => by rw [e97Z, if_pos ⟨w0Z, w1Z⟩, if_pos rfl]) i (by omega) (by omega), o1 (i : Int)]
    unfold mLeftG mHas
    rw [s2Z]
    refine and_congr ⟨fun ⟨r, hr, aZ, bZ⟩ => ⟨(r : Int), by omega, by omega, by rw [← (recF r hr).1]; exact aZ, by rw [← (recF r hr).2]; exact bZ⟩, fun ⟨r, r0, r1Z, aZ, bZ⟩ => ⟨r.toNat, by omega, ?_, ?_⟩⟩ ?_
    · rw [(recF r.toNat (by omega)).1, show ((r.toNat : Nat) : Int) = r by omega]; exact aZ
    · rw [(recF r.toNat (by omega)).2, show ((r.toNat : Nat) : Int) = r by omega]; exact bZ
    · constructor
      · intro zZ
        refine ⟨fun ⟨r, r0, r1Z, aZ, bZ⟩ => zZ ⟨r.toNat, by omega, ?_, ?_⟩, fun ⟨r, r0, r1Z, aZ, bZ⟩ => zZ ⟨r.toNat, by omega, ?_, ?_⟩⟩
        · rw [(recF r.toNat (by omega)).1, show ((r.toNat : Nat) : Int) = r by omega]; exact Or.inl aZ
        · rw [(recF r.toNat (by omega)).2, show ((r.toNat : Nat) : Int) = r by omega]; exact bZ
        · rw [(recF r.toNat (by omega)).1, show ((r.toNat : Nat) : Int) = r by omega]; exact Or.inr aZ
        · rw [(recF r.toNat (by omega)).2, show ((r.toNat : Nat) : Int) = r by omega]; exact bZ
      · rintro ⟨z1, z3⟩ ⟨r, hr, aZ, bZ⟩
        rw [(recF r hr).1] at aZ
        rw [(recF r hr).2] at bZ
        rcases aZ with aZ | aZ
        · exact z1 ⟨(r : Int), by omega, by omega, aZ, bZ⟩
        · exact z3 ⟨(r : Int), by omega, by omega, aZ, bZ⟩
  have opo : ∀ (l k : Nat) (V : IT) (o : Nat), o ≠ 1197 → lgOpn (12000 + g) 1197 l k V o = V o := by
    intro l
    induction l with
    | zero => intro k V o _; rfl
    | succ l ihZ =>
      intro k V o ho
      unfold lgOpn
      split
      · exact (ihZ _ _ o ho).trans (funext (fun zZ => up2_o _ _ _ _ ho))
      · split
        · exact (ihZ _ _ o ho).trans (funext (fun zZ => up2_o _ _ _ _ ho))
        · exact ihZ _ _ o ho
  generalize hI2 : lgOpn (12000 + g) 1197 x 0 (filI I1 1197 0 60 0) = I2 at *
  have i2Z : ∀ o, o ≠ 1197 → I2 o = I1 o := fun o ho => by rw [← hI2, opo _ _ _ o ho, f0Z o ho]
  have E2 : ER I2 S1 n x g lv mv q := E1Z.same hB.lev g10 (fun o ho => i2Z o (by unfold erC erI at ho; omega)) (fun _ _ _ => rfl) ⟨Int.le_refl _, E1Z.rd.2.2⟩
  have B2 : CB K P I2 n x g lq lv mv := by
    refine ⟨B1.c, ⟨B1.v, ?_⟩, B1.e.fr (fun o ho => ⟨rfl, rfl, i2Z o (by omega)⟩) ⟨rfl, rfl⟩ (fun j hj => B1.e.tx hj), fun j hj => ?_⟩
    · have := B1.l
      unfold LgN at *
      rw [i2Z 1192 (by decide)]; exact this
    · obtain ⟨-, bZ, cZ⟩ := B1.t hj
      exact ⟨bZ.fl (hB.lev j hj) (fun o ho => i2Z o (by unfold nTx tX at ho; omega)), by rw [i2Z (tX j) (by unfold tX; omega)]; exact cZ⟩
  have phZ : ∀ j : Nat, j < n → S1 221 j = 2 ∨ S1 221 j = 3 := fun j hj => by
    rw [s3Z j hj]
    have := (hE.ph j hj).1
    split <;> omega
  have c2Z : ∀ j : Nat, j < n → S1 221 j = 2 → ¬ mLeftG S1 j := fun j hj h2 zZ => by
    obtain ⟨r, r0, r1Z, aZ, bZ⟩ := (E1Z.lo.2 j hj).mp h2
    exact zZ.2.1 ⟨r, r0, by rw [s2Z]; exact r1Z, aZ, bZ⟩
  have rn := mCr2_rg S1 n
  have rs := (mCr2_n S1 n).2.1
  rw [s2Z] at rs
  have rU := hU n (Nat.le_refl _)
  have l9 := lgP_le g10
  have endQ : ∀ (K1 : KT) (P1Z : PT) (I9 : IT) (N1 g1 cZ zZ : Nat), CB K1 P1Z I9 n N1 g1 lq lv mv → ER I9 (mCr2 S1 n).1 n N1 g1 lv mv q → (cZ + g = g1 ∧ zZ + lgP g = lgP g1) → Fr nLg K P I2 K1 P1Z I9 → VE m_Engine_comeBack false (RmC X Y) (CrE K P J I S n g lq x lv mv q) K1 P1Z J I9 cZ zZ 103 [(0, vR (some 1064)), (2, vI (mCr2 S1 n).2)] [] := by
    intro K1 P1Z I9 N1 g1 cZ zZ hB9 hE9 hp hF
    have C9 := hB9.c
    have l10 := lgP_le hB9.g10
    have g19 := hB9.g10
    have spF := sp_Log_flush (J := J) (I := I9) hB9.v.1
    have n0Z : I9 1192 0 = N1 := hB9.l.1
    have e44 := hE9.cnt.2.1
    have E10 : ER (up2 I9 1192 1 (I9 1192 0)) (up2 (mCr2 S1 n).1 100 45 ((mCr2 S1 n).1 100 44)) n N1 g1 lv mv q := by
      refine hE9.checked hB.lev hB9.g10 ⟨Nat.le_refl _, hE9.cnt.2.2.2⟩ (fun o k aZ bZ => ?_) ?_ ?_ (fun r _ => ⟨up2_o _ _ _ _ (by decide), up2_o _ _ _ _ (by decide), up2_o _ _ _ _ (by decide), up2_o _ _ _ _ (by decide)⟩) (fun r aZ bZ => by omega) (fun o ho => funext (fun k => up2_o _ _ _ _ (fun zZ => ho (by unfold nLg; omega)))) ⟨by rw [up2_k _ _ _ _ (by decide)]; exact n0Z, by rw [up2_eq, up2_eq, n0Z, e44]⟩ (fun r hr => ?_) (fun r f hr f0Z f1 => ?_)
      · by_cases ho : o = 100
        · rw [ho]; exact up2_k _ _ _ _ (by omega)
        · exact up2_o _ _ _ _ ho
      · rw [up2_k _ _ _ _ (by decide)]; exact e44
      · rw [up2_eq, e44]
        have := hE9.sp.2.1
        omega
      · have := hE9.lg.2 r hr
        unfold lgF at *
        rw [up2_o _ _ _ _ (by omega), up2_o _ _ _ _ (by omega), up2_o _ _ _ _ (by omega), up2_o _ _ _ _ (by omega), up2_o _ _ _ _ (by omega), up2_o _ _ _ _ (by omega), up2_o _ _ _ _ (by omega), up2_o _ _ _ _ (by omega)]
        exact this
      · unfold lgF
        rw [up2_o _ _ _ _ (by omega)]
    have B10 : CB K1 P1Z (up2 I9 1192 1 (I9 1192 0)) n N1 g1 lq lv mv := by
      refine ⟨C9, ⟨hB9.v, ?_⟩, hB9.e.fr (fun o ho => ⟨rfl, rfl, funext (fun k => up2_o _ _ _ _ (by omega))⟩) ⟨rfl, rfl⟩ (fun j hj => hB9.e.tx hj), fun j hj => ?_⟩
      · have := hB9.l
        unfold LgN at *
        rw [up2_k _ _ _ _ (by decide)]; exact this
      · obtain ⟨-, bZ, cc⟩ := hB9.t hj
        exact ⟨bZ.fl (hB.lev j hj) (fun o ho => funext (fun k => up2_o _ _ _ _ (by unfold nTx tX at ho; omega))), by rw [up2_o _ _ _ _ (by unfold tX; omega)]; exact cc⟩
    have finZ : CrE K P J I S n g lq x lv mv q (.inl (some (vI (mCr2 S1 n).2))) K1 P1Z J (up2 I9 1192 1 (I9 1192 0)) cZ zZ := by
      have e9Z : mCrR S x = mCr2 S1 n := by unfold mCrR; rw [hS1, en]
      refine ⟨rfl, N1, g1, by rw [e9Z], B10, by rw [e9Z]; exact E10, hp, fun j hj => ?_, fun o ho => ?_⟩
      · rw [up2_o _ _ _ _ (by unfold tX; omega), (hF (tX j) (by unfold nLg tX; omega)).2.2, i2Z (tX j) (by unfold tX; omega), X1 j hj 14 (by decide) (by decide)]
      · have hl : ¬ nLg o := fun zZ => ho (by unfold nLg at zZ; unfold nEn; omega)
        refine ⟨(hF o hl).1, (hF o hl).2.1, ?_⟩
        rw [show up2 I9 1192 1 (I9 1192 0) o = I9 o from funext (fun k => up2_o _ _ _ _ (fun zZ => ho (by unfold nEn; omega))), (hF o hl).2.2, i2Z o (fun zZ => ho (by unfold nEn; omega)), F1Z o ho]
    refine VE.aload_n (pc' := 104) d_Engine_comeBack_103 rfl rfl ?_
    refine VE.gP (ci := 0) (T := T0) (N := 8) (k := 3) (k' := 3) (pc' := 107) d_Engine_comeBack_104 rfl lk_Engine_28 in0 rfl rfl rfl rfl (by first | exact C9.k 9 rfl | exact C9.k 23 rfl) (by first | exact C9.p 18 rfl | rfl) ?_
    refine VE.cV (ci := 2) (T := T2) (N := 5) (pc' := 110) d_Engine_comeBack_107 rfl mv_Log_flush lk_Engine_237 rfl (by first | exact C9.k 9 rfl | exact C9.k 23 rfl) rfl rfl rfl (by show cZ + 0 ≤ X; omega) (by show zZ + 0 ≤ Y; omega) (spF) rfl rfl ?_
    refine VE.iload_n (pc' := 111) d_Engine_comeBack_110 rfl rfl ?_
    exact VE.iret d_Engine_comeBack_111 rfl rfl (by show cZ + 0 ≤ X; omega) (by show zZ + 0 ≤ Y; omega) finZ
  have ulZ := un_loop (x0 := 0) (Q := CrE K P J I S n g lq x lv mv q) (J := J) (X := X) (Y := Y) K P g10 hU ⟨rn, by omega⟩ hY phZ c2Z leftZ endQ n 0 K P I2 x g 0 0 (by omega) B2 E2 ⟨by omega, by omega⟩ (fun o _ => ⟨rfl, rfl, rfl⟩) (fun j _ _ => Iff.rfl)
  have midZ : VE m_Engine_comeBack false (RmC X Y) (CrE K P J I S n g lq x lv mv q) K P J I1 0 0 52 [(0, vR (some 1064))] [] := by
    refine VE.aload_n (pc' := 53) d_Engine_comeBack_52 rfl rfl ?_
    refine VE.gP (ci := 0) (T := T0) (N := 8) (k := 3) (k' := 3) (pc' := 56) d_Engine_comeBack_53 rfl lk_Engine_28 in0 rfl rfl rfl rfl (by first | exact hC.k 9 rfl | exact hC.k 23 rfl) (by first | exact hC.p 18 rfl | rfl) ?_
    refine VE.cV (ci := 2) (T := T2) (N := 5) (pc' := 59) d_Engine_comeBack_56 rfl mv_Log_markLeftOpen lk_Engine_243 rfl (by first | exact hC.k 9 rfl | exact hC.k 23 rfl) rfl rfl rfl (by show 0 + 0 ≤ X; omega) (by show 0 + 0 ≤ Y; omega) (spM) rfl rfl ?_
    refine VE.iconst (pc' := 60) d_Engine_comeBack_59 rfl (by decide) ?_
    refine VE.istore_n (pc' := 61) d_Engine_comeBack_60 rfl rfl ?_
    refine VE.iconst (pc' := 62) d_Engine_comeBack_61 rfl (by decide) ?_
    refine VE.istore_n (pc' := 63) d_Engine_comeBack_62 rfl rfl ?_
    refine VE.pick [0, 2, 3] ?_
    exact ulZ
  rw [← hI1] at midZ
  have clZ := cb_loop (Q := CrE K P J I S n g lq x lv mv q) (J := J) (X := X) (Y := Y) hC hL0 hN0 ⟨by omega, by omega⟩ midZ n 0 (by omega)
  refine SpE.ofV (by decide) (Or.inr rfl) rfl ?_
  refine VE.aload_n (pc' := 1) d_Engine_comeBack_0 rfl rfl ?_
  refine VE.gP (ci := 0) (T := T0) (N := 8) (k := 3) (k' := 3) (pc' := 4) d_Engine_comeBack_1 rfl lk_Engine_28 in0 rfl rfl rfl rfl (by first | exact hC.k 9 rfl | exact hC.k 23 rfl) (by first | exact hC.p 18 rfl | rfl) ?_
  refine VE.iload_n (pc' := 5) d_Engine_comeBack_4 rfl rfl ?_
  refine VE.cV (ci := 2) (T := T2) (N := 5) (pc' := 8) d_Engine_comeBack_5 rfl mv_Log_cut lk_Engine_240 rfl (by first | exact hC.k 9 rfl | exact hC.k 23 rfl) rfl rfl rfl (by show 0 + 0 ≤ X; omega) (by show 0 + 0 ≤ Y; omega) (spC) rfl rfl ?_
  refine VE.iconst (pc' := 9) d_Engine_comeBack_8 rfl (by decide) ?_
  refine VE.istore_n (pc' := 10) d_Engine_comeBack_9 rfl rfl ?_
  refine VE.pick [0, 2] ?_
  exact clZ
theorem crash_no1 (hC : ClW K P) (h : ¬ (I 1192 1 ≤ y ∧ y ≤ I 1192 0)) : Sp m_F_crash true ({ frames := 12, cells := 1, slots := 6, locals := 400 } : Room) (ex K P J I (.inr eIOO)) K P J I [vR (some 1000), vI y] := by
  refine Sp.ofV (by decide) (Or.inl rfl) rfl ?_
  refine VW.iload_n (pc' := 1) d_F_crash_0 rfl rfl ?_
  refine VW.aload_n (pc' := 2) d_F_crash_1 rfl rfl ?_
  refine VW.gP (ci := 10) (T := T10) (N := 11) (k := 1) (k' := 1) (pc' := 5) d_F_crash_2 rfl lk_F_21 in10 rfl rfl rfl rfl (by first | exact hC.k 0 rfl | exact hC.k 9 rfl | exact hC.k 23 rfl) (by first | exact hC.p 1 rfl | exact hC.p 18 rfl | rfl) ?_
  refine VW.gP (ci := 0) (T := T0) (N := 8) (k := 3) (k' := 3) (pc' := 8) d_F_crash_5 rfl lk_F_219 in0 rfl rfl rfl rfl (by first | exact hC.k 0 rfl | exact hC.k 9 rfl | exact hC.k 23 rfl) (by first | exact hC.p 1 rfl | exact hC.p 18 rfl | rfl) ?_
  refine VW.gI (ci := 2) (T := T2) (N := 5) (k := 1) (k' := 1) (pc' := 11) d_F_crash_8 rfl lk_F_333 in2 rfl rfl rfl rfl (by first | exact hC.k 0 rfl | exact hC.k 9 rfl | exact hC.k 23 rfl) (by first | exact hC.p 1 rfl | exact hC.p 18 rfl | rfl) ?_
  refine VW.icmp_lt (tgt := 32) (pc' := 14) d_F_crash_11 rfl rfl (fun c11 => ?_) (fun c11 => ?_)
  · refine VW.iconst (pc' := 33) d_F_crash_32 rfl (by decide) ?_
    refine VW.callSX (pc' := 36) d_F_crash_33 rfl (sp_F_demandPlace0) rfl ms_F_demandPlace.1 ms_F_demandPlace.2.1 rfl ms_F_demandPlace.2.2 lk_F_97 rfl rfl rfl (by decide) (by decide) (fun _ _ _ _ _ hz => ?_) (fun _ _ _ _ _ hz => by cases hz.1)
    obtain ⟨z1, z2, z3, z4, z5⟩ := hz
    cases z1
    replace z2 := z2.symm; replace z3 := z3.symm; replace z4 := z4.symm; replace z5 := z5.symm
    subst z2; subst z3; subst z4; subst z5
    exact Or.inl ⟨rfl, ex_rf⟩
    -- end
  · refine VW.iload_n (pc' := 15) d_F_crash_14 rfl rfl ?_
    refine VW.aload_n (pc' := 16) d_F_crash_15 rfl rfl ?_
    refine VW.gP (ci := 10) (T := T10) (N := 11) (k := 1) (k' := 1) (pc' := 19) d_F_crash_16 rfl lk_F_21 in10 rfl rfl rfl rfl (by first | exact hC.k 0 rfl | exact hC.k 9 rfl | exact hC.k 23 rfl) (by first | exact hC.p 1 rfl | exact hC.p 18 rfl | rfl) ?_
    refine VW.gP (ci := 0) (T := T0) (N := 8) (k := 3) (k' := 3) (pc' := 22) d_F_crash_19 rfl lk_F_219 in0 rfl rfl rfl rfl (by first | exact hC.k 0 rfl | exact hC.k 9 rfl | exact hC.k 23 rfl) (by first | exact hC.p 1 rfl | exact hC.p 18 rfl | rfl) ?_
    refine VW.gI (ci := 2) (T := T2) (N := 5) (k := 0) (k' := 0) (pc' := 25) d_F_crash_22 rfl lk_F_330 in2 rfl rfl rfl rfl (by first | exact hC.k 0 rfl | exact hC.k 9 rfl | exact hC.k 23 rfl) (by first | exact hC.p 1 rfl | exact hC.p 18 rfl | rfl) ?_
    refine VW.icmp_gt (tgt := 32) (pc' := 28) d_F_crash_25 rfl rfl (fun c25 => ?_) (fun c25 => ?_)
    · refine VW.iconst (pc' := 33) d_F_crash_32 rfl (by decide) ?_
      refine VW.callSX (pc' := 36) d_F_crash_33 rfl (sp_F_demandPlace0) rfl ms_F_demandPlace.1 ms_F_demandPlace.2.1 rfl ms_F_demandPlace.2.2 lk_F_97 rfl rfl rfl (by decide) (by decide) (fun _ _ _ _ _ hz => ?_) (fun _ _ _ _ _ hz => by cases hz.1)
      obtain ⟨z1, z2, z3, z4, z5⟩ := hz
      cases z1
      replace z2 := z2.symm; replace z3 := z3.symm; replace z4 := z4.symm; replace z5 := z5.symm
      subst z2; subst z3; subst z4; subst z5
      exact Or.inl ⟨rfl, ex_rf⟩
      -- end
    · refine VW.nrm ?_
      exact absurd ⟨by omega, by omega⟩ h
theorem crash_ex (hB : CB K P I n N g lq lv mv) (hE : ER I S n N g lv mv q) (hx : S 100 45 ≤ x ∧ x ≤ N) (hcm : ∀ r, 0 ≤ r → r < (N : Int) → S 246 r = 1 → r < S 100 45) (hU : ∀ k : Nat, k ≤ n → (mCr2 (mCrS S x) k).1 100 44 ≤ 16383) (hY : 10 ≤ X ∧ 524288 ≤ Y) :
    SpE m_F_crash true ({ frames := 13, cells := X, slots := Y, locals := 560 } : Room) (CrE K P J I S n g lq x lv mv q) K P J I [vR (some 1000), vI (x : Int)] := by
  have hC := hB.c
  have l0 := hE.lg.1
  have spB := comeback_ex (J := J) (X := X) (Y := Y) hB hE hx hcm hU hY
  refine SpE.ofV (by decide) (Or.inl rfl) rfl ?_
  refine VE.iload_n (pc' := 1) d_F_crash_0 rfl rfl ?_
  refine VE.aload_n (pc' := 2) d_F_crash_1 rfl rfl ?_
  refine VE.gP (ci := 10) (T := T10) (N := 11) (k := 1) (k' := 1) (pc' := 5) d_F_crash_2 rfl lk_F_21 in10 rfl rfl rfl rfl (by first | exact hC.k 0 rfl | exact hC.k 9 rfl | exact hC.k 23 rfl) (by first | exact hC.p 1 rfl | exact hC.p 18 rfl | rfl) ?_
  refine VE.gP (ci := 0) (T := T0) (N := 8) (k := 3) (k' := 3) (pc' := 8) d_F_crash_5 rfl lk_F_219 in0 rfl rfl rfl rfl (by first | exact hC.k 0 rfl | exact hC.k 9 rfl | exact hC.k 23 rfl) (by first | exact hC.p 1 rfl | exact hC.p 18 rfl | rfl) ?_
  refine VE.gI (ci := 2) (T := T2) (N := 5) (k := 1) (k' := 1) (pc' := 11) d_F_crash_8 rfl lk_F_333 in2 rfl rfl rfl rfl (by first | exact hC.k 0 rfl | exact hC.k 9 rfl | exact hC.k 23 rfl) (by first | exact hC.p 1 rfl | exact hC.p 18 rfl | rfl) ?_
  refine VE.icmp_lt (tgt := 32) (pc' := 14) d_F_crash_11 rfl rfl (fun c11 => ?_) (fun c11 => ?_)
  case refine_1 => exact absurd c11 (by omega)
  refine VE.iload_n (pc' := 15) d_F_crash_14 rfl rfl ?_
  refine VE.aload_n (pc' := 16) d_F_crash_15 rfl rfl ?_
  refine VE.gP (ci := 10) (T := T10) (N := 11) (k := 1) (k' := 1) (pc' := 19) d_F_crash_16 rfl lk_F_21 in10 rfl rfl rfl rfl (by first | exact hC.k 0 rfl | exact hC.k 9 rfl | exact hC.k 23 rfl) (by first | exact hC.p 1 rfl | exact hC.p 18 rfl | rfl) ?_
  refine VE.gP (ci := 0) (T := T0) (N := 8) (k := 3) (k' := 3) (pc' := 22) d_F_crash_19 rfl lk_F_219 in0 rfl rfl rfl rfl (by first | exact hC.k 0 rfl | exact hC.k 9 rfl | exact hC.k 23 rfl) (by first | exact hC.p 1 rfl | exact hC.p 18 rfl | rfl) ?_
  refine VE.gI (ci := 2) (T := T2) (N := 5) (k := 0) (k' := 0) (pc' := 25) d_F_crash_22 rfl lk_F_330 in2 rfl rfl rfl rfl (by first | exact hC.k 0 rfl | exact hC.k 9 rfl | exact hC.k 23 rfl) (by first | exact hC.p 1 rfl | exact hC.p 18 rfl | rfl) ?_
  refine VE.icmp_gt (tgt := 32) (pc' := 28) d_F_crash_25 rfl rfl (fun c25 => ?_) (fun c25 => ?_)
  case refine_1 => exact absurd c25 (by omega)
  refine VE.iconst (pc' := 29) d_F_crash_28 rfl (by decide) ?_
  refine VE.goto (pc' := 33) d_F_crash_29 rfl ?_
  refine VE.callSX (pc' := 36) d_F_crash_33 rfl (sp_F_demandPlace1 (by decide)) rfl ms_F_demandPlace.1 ms_F_demandPlace.2.1 rfl ms_F_demandPlace.2.2 lk_F_97 rfl rfl rfl (by show 0 + 0 ≤ X; omega) (by show 0 + 0 ≤ Y; omega) (fun _ _ _ _ _ hz => by cases hz.1) (fun r _ _ _ _ hz => ?_)
  obtain ⟨z1, z2, z3, z4, z5⟩ := hz
  cases z1
  replace z2 := z2.symm; replace z3 := z3.symm; replace z4 := z4.symm; replace z5 := z5.symm
  subst z2; subst z3; subst z4; subst z5
  refine VE.aload_n (pc' := 37) d_F_crash_36 rfl rfl ?_
  refine VE.gP (ci := 10) (T := T10) (N := 11) (k := 1) (k' := 1) (pc' := 40) d_F_crash_37 rfl lk_F_21 in10 rfl rfl rfl rfl (by first | exact hC.k 0 rfl | exact hC.k 9 rfl | exact hC.k 23 rfl) (by first | exact hC.p 1 rfl | exact hC.p 18 rfl | rfl) ?_
  refine VE.iload_n (pc' := 41) d_F_crash_40 rfl rfl ?_
  refine VE.callVE (ci := 0) (T := T0) (N := 8) (pc' := 44) d_F_crash_41 rfl spB rfl mv_Engine_comeBack.1 mv_Engine_comeBack.2.1 rfl mv_Engine_comeBack.2.2.1 mv_Engine_comeBack.2.2.2 lk_F_336 rfl (by first | exact hC.k 0 rfl | exact hC.k 9 rfl | exact hC.k 23 rfl) rfl rfl rfl (by show 0 + 0 + X ≤ X; omega) (by show 0 + 0 + Y ≤ Y; omega) (fun k9 n9 r K' P' J' I' hz => ?_)
  obtain ⟨z1, N', g', z2, z3, z4, z5, z6, z7⟩ := hz
  cases z2
  replace z1 := z1.symm
  subst z1
  have gg := z3.g10
  have lg := lgP_le gg
  have finZ : CrE K P J I S n g lq x lv mv q (.inl (some (vI (mCrR S x).2))) K' P' J I' k9 n9 := ⟨rfl, N', g', rfl, z3, z4, z5, z6, z7⟩
  exact VE.iret d_F_crash_44 rfl rfl (by show 0 + 0 + k9 ≤ X; omega) (by show 0 + 0 + n9 ≤ Y; omega) (by have := finZ; rw [← Nat.zero_add k9, ← Nat.zero_add n9] at this; exact this)
end
