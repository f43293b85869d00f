/-! Engine.comeBack -/
section
variable {K K' : KT} {P P' : PT} {J I I' S S' T : IT} {n N g lq x : Nat} {lv mv : Nat → Nat} {q : Int} {X Y : Nat} {Q : PE}
/-- all that runs among the first is ended -/
noncomputable def cbI (mv : Nat → Nat) (I : IT) : Nat → IT
  | 0 => I
  | i + 1 => if bI (cbI mv I i (tX i) 4 = 0 ∨ cbI mv I i (tX i) 4 = 1) = 1 then fiI (cbI mv I i) (tX i) (tX i + 80 + mv i) 3 (cbI mv I i (tX i) 17).toNat else cbI mv I i
theorem cbI_y {i : Nat} (h : cbI mv I i (tX i) 4 = 0 ∨ cbI mv I i (tX i) 4 = 1) : cbI mv I (i + 1) = fiI (cbI mv I i) (tX i) (tX i + 80 + mv i) 3 (cbI mv I i (tX i) 17).toNat := if_pos (bI1 h)
theorem cbI_n {i : Nat} (h : ¬ (cbI mv I i (tX i) 4 = 0 ∨ cbI mv I i (tX i) 4 = 1)) : cbI mv I (i + 1) = cbI mv I i := if_neg (by rw [bI0 h]; decide)
theorem cbI_o {o : Nat} (h : o ≠ 1069) : ∀ i : Nat, (∀ j, j < i → o ≠ tX j) → cbI mv I i o = I o := by
  intro i
  induction i with
  | zero => intro _; rfl
  | succ i ihZ =>
    intro hj
    by_cases cZ : cbI mv I i (tX i) 4 = 0 ∨ cbI mv I i (tX i) 4 = 1
    · rw [cbI_y cZ, fiI_o (hj i (by omega)) h]; exact ihZ (fun j h => hj j (by omega))
    · rw [cbI_n cZ]; exact ihZ (fun j h => hj j (by omega))
theorem cbI_me {i : Nat} (a : Nat) (ha : a < 128) : cbI mv I i (tX i + a) = I (tX i + a) := cbI_o (by unfold tX; omega) i (fun j hj => by unfold tX; omega)
theorem cbI_x : ∀ m j : Nat, j < m → ∀ k, cbI mv I m (tX j) k = if I (tX j) 4 = 0 ∨ I (tX j) 4 = 1 then (if k = 6 then -1 else if k = 4 then 3 else I (tX j) k) else I (tX j) k := by
  intro m
  induction m with
  | zero => intro j hj; omega
  | succ m ihZ =>
    intro j hj k
    have em : cbI mv I m (tX m) = I (tX m) := cbI_me (i := m) 0 (by decide)
    by_cases eZ : j = m
    · subst eZ
      by_cases cZ : I (tX j) 4 = 0 ∨ I (tX j) 4 = 1
      · rw [cbI_y (by rw [em]; exact cZ), fiI_x (by unfold tX; omega), if_pos cZ, em]
      · rw [cbI_n (by rw [em]; exact cZ), em, if_neg cZ]
    · by_cases cZ : cbI mv I m (tX m) 4 = 0 ∨ cbI mv I m (tX m) 4 = 1
      · rw [cbI_y cZ, fiI_o (by unfold tX; omega) (by unfold tX; omega)]; exact ihZ j (by omega) k
      · rw [cbI_n cZ]; exact ihZ j (by omega) k
theorem cbI_w {z : Int} : ∀ m : Nat, (I 1069 z = -1 ∨ ∃ j : Nat, j < m ∧ (I (tX j) 4 = 0 ∨ I (tX j) 4 = 1) ∧ FpS I j (mv j) z) → (∀ j, j < m → mv j < 15) → cbI mv I m 1069 z = -1 := by
  intro m
  induction m with
  | zero =>
    intro hZ _
    rcases hZ with hZ | ⟨j, hj, _⟩
    · exact hZ
    · omega
  | succ m ihZ =>
    intro hZ hmZ
    have em : ∀ a, a < 128 → cbI mv I m (tX m + a) = I (tX m + a) := fun a ha => cbI_me (i := m) a ha
    have em0 : cbI mv I m (tX m) = I (tX m) := em 0 (by decide)
    have m15 := hmZ m (by omega)
    have ef : cbI mv I m (tX m + 80 + mv m) = I (tX m + 80 + mv m) := by rw [Nat.add_assoc]; exact em _ (by omega)
    by_cases cZ : I (tX m) 4 = 0 ∨ I (tX m) 4 = 1
    · rw [cbI_y (by rw [em0]; exact cZ), em0]
      by_cases fZ : FpS I m (mv m) z
      · obtain ⟨pZ, p0Z, p1Z, p2Z⟩ := fZ
        refine fiI_w (by unfold tX; omega) z _ ⟨pZ.toNat, by omega, ?_⟩
        rw [ef, show ((pZ.toNat : Nat) : Int) = pZ by omega]; exact p2Z
      · rw [fiI_n (by unfold tX; omega) z _ (fun pZ hp e => fZ ⟨(pZ : Int), by omega, by omega, by rw [← ef]; exact e⟩)]
        refine ihZ (hZ.imp id (fun ⟨j, hj, a, b⟩ => ?_)) (fun j hj => hmZ j (by omega))
        have : j ≠ m := fun e => fZ (e ▸ b)
        exact ⟨j, by omega, a, b⟩
    · rw [cbI_n (by rw [em0]; exact cZ)]
      refine ihZ (hZ.imp id (fun ⟨j, hj, a, b⟩ => ?_)) (fun j hj => hmZ j (by omega))
      have : j ≠ m := fun e => cZ (e ▸ a)
      exact ⟨j, by omega, a, b⟩
/-- which are left running, by the log -/
def OpI (T : IT) (d : Nat) (k : Nat) (V : IT) (m : Nat) : Prop := ∀ w : Int, (V m w ≠ 0 ↔ (∃ r : Nat, r < k ∧ T d ((r : Int) * 8) = 0 ∧ T d ((r : Int) * 8 + 1) = w) ∧ ¬ ∃ r : Nat, r < k ∧ (T d ((r : Int) * 8) = 1 ∨ T d ((r : Int) * 8) = 3) ∧ T d ((r : Int) * 8 + 1) = w)
theorem opn_spec {d m : Nat} (hdm : d ≠ m) {N : Nat} (hle : ∀ r p : Nat, r < p → p < N → (T d ((r : Int) * 8) = 1 ∨ T d ((r : Int) * 8) = 3) → T d ((p : Int) * 8) = 0 → T d ((p : Int) * 8 + 1) ≠ T d ((r : Int) * 8 + 1)) : ∀ (l k : Nat) (V : IT), k + l = N → V d = T d → OpI T d k V m → OpI T d N (lgOpn d m l k V) m ∧ ∀ o, o ≠ m → lgOpn d m l k V o = V o := by
  intro l
  induction l with
  | zero =>
    intro k V hk _ hZ
    have : k = N := by omega
    subst this
    exact ⟨hZ, fun _ _ => rfl⟩
  | succ l ihZ =>
    intro k V hk hdZ hZ
    have e0Z : V d ((k : Int) * 8) = T d ((k : Int) * 8) := by rw [hdZ]
    have e1Z : V d ((k : Int) * 8 + 1) = T d ((k : Int) * 8 + 1) := by rw [hdZ]
    unfold lgOpn
    by_cases c0Z : V d ((k : Int) * 8) = 0
    · rw [if_pos c0Z]
      have hd' : up2 V m (V d ((k : Int) * 8 + 1)) 1 d = T d := (funext (fun z => up2_o _ _ _ _ hdm)).trans hdZ
      refine (fun ⟨a, b⟩ => ?_) (ihZ (k + 1) (up2 V m (V d ((k : Int) * 8 + 1)) 1) (by omega) hd' (fun w => ?_))
      rotate_left
      · exact ⟨a, fun o ho => (b o ho).trans (funext (fun z => up2_o _ _ _ _ ho))⟩
      · rw [e0Z] at c0Z
        by_cases ew : w = V d ((k : Int) * 8 + 1)
        · rw [ew, up2_eq]
          refine ⟨fun _ => ⟨⟨k, by omega, c0Z, e1Z.symm⟩, fun ⟨r, hr, hk2, hw⟩ => ?_⟩, fun _ => by decide⟩
          by_cases er : r = k
          · rw [er, c0Z] at hk2; omega
          · exact hle r k (by omega) (by omega) hk2 c0Z (by rw [hw, e1Z])
        · rw [up2_k _ _ _ _ ew, hZ w]
          refine and_congr ⟨fun ⟨r, a, b, c⟩ => ⟨r, by omega, b, c⟩, fun ⟨r, a, b, c⟩ => ⟨r, ?_, b, c⟩⟩ (not_congr ⟨fun ⟨r, a, b, c⟩ => ⟨r, by omega, b, c⟩, fun ⟨r, a, b, c⟩ => ⟨r, ?_, b, c⟩⟩)
          · have : r ≠ k := fun z => ew (by rw [← c, z, e1Z])
            omega
          · have : r ≠ k := fun z => ew (by rw [← c, z, e1Z])
            omega
    · rw [if_neg c0Z]
      by_cases c1Z : V d ((k : Int) * 8) = 1 ∨ V d ((k : Int) * 8) = 3
      · rw [if_pos c1Z]
        have hd' : up2 V m (V d ((k : Int) * 8 + 1)) 0 d = T d := (funext (fun z => up2_o _ _ _ _ hdm)).trans hdZ
        refine (fun ⟨a, b⟩ => ?_) (ihZ (k + 1) (up2 V m (V d ((k : Int) * 8 + 1)) 0) (by omega) hd' (fun w => ?_))
        rotate_left
        · exact ⟨a, fun o ho => (b o ho).trans (funext (fun z => up2_o _ _ _ _ ho))⟩
        · rw [e0Z] at c1Z c0Z
          by_cases ew : w = V d ((k : Int) * 8 + 1)
          · rw [ew, up2_eq]
            exact ⟨fun z => absurd rfl z, fun z => absurd ⟨k, by omega, c1Z, e1Z.symm⟩ z.2⟩
          · rw [up2_k _ _ _ _ ew, hZ w]
            refine and_congr ⟨fun ⟨r, a, b, c⟩ => ⟨r, by omega, b, c⟩, fun ⟨r, a, b, c⟩ => ⟨r, ?_, b, c⟩⟩ (not_congr ⟨fun ⟨r, a, b, c⟩ => ⟨r, by omega, b, c⟩, fun ⟨r, a, b, c⟩ => ⟨r, ?_, b, c⟩⟩)
            · have : r ≠ k := fun z => ew (by rw [← c, z, e1Z])
              omega
            · have : r ≠ k := fun z => ew (by rw [← c, z, e1Z])
              omega
      · rw [if_neg c1Z]
        refine ihZ (k + 1) V (by omega) hdZ (fun w => ?_)
        rw [e0Z] at c1Z c0Z
        rw [hZ w]
        refine and_congr ⟨fun ⟨r, a, b, c⟩ => ⟨r, by omega, b, c⟩, fun ⟨r, a, b, c⟩ => ⟨r, ?_, b, c⟩⟩ (not_congr ⟨fun ⟨r, a, b, c⟩ => ⟨r, by omega, b, c⟩, fun ⟨r, a, b, c⟩ => ⟨r, ?_, b, c⟩⟩)
        · have : r ≠ k := fun z => c0Z (z ▸ b)
          omega
        · have : r ≠ k := fun z => c1Z (z ▸ b)
          omega
/-- what is left of another is not changed by an undoing -/
theorem left_same {i j : Int} {L : List Rc} (hX : MlX S S' N L) (h44 : S 100 44 = N) (hL : ∀ x ∈ L, x.2.1 = i) (hij : j ≠ i) : mLeftG S' j ↔ mLeftG S j := by
  have hasZ : ∀ w, mHas S' j w ↔ mHas S j w := fun w => by
    unfold mHas
    rw [hX.2.1, h44]
    constructor
    · rintro ⟨rZ, r0, r1Z, aZ, bZ⟩
      by_cases eZ : rZ < N
      · have := hX.2.2.1 rZ (by omega)
        exact ⟨rZ, r0, eZ, by rw [← this.1]; exact aZ, by rw [← this.2.1]; exact bZ⟩
      · obtain ⟨yZ, hy, -, b2, -⟩ := new_rec hX (by omega) r1Z
        exact absurd (bZ.symm.trans (b2.trans (hL yZ hy))) hij
    · rintro ⟨rZ, r0, r1Z, aZ, bZ⟩
      have := hX.2.2.1 rZ (by omega)
      exact ⟨rZ, r0, by omega, by rw [this.1]; exact aZ, by rw [this.2.1]; exact bZ⟩
  unfold mLeftG
  rw [hasZ 0, hasZ 1, hasZ 3]
def RmC (X Y : Nat) : Room := { frames := 7, cells := X, slots := Y, locals := 300 }
theorem cb_loop {cs ns : Nat} (hC : ClW K P) (hL : EnL K P I n lq lv mv) (hN : ∀ j, j < n → TxN I j (lv j) (mv j)) (hX : cs ≤ X ∧ ns ≤ Y) (hQ : VE m_Engine_comeBack false (RmC X Y) Q K P J (cbI mv I n) cs ns 52 [(0, vR (some 1064))] []) : ∀ w i : Nat, i + w = n → VE m_Engine_comeBack false (RmC X Y) Q K P J (cbI mv I i) cs ns 10 [(0, vR (some 1064)), (2, vI (i : Int))] [] := by
  have h60 := hL.2.1
  have hcp := hL.cp
  intro w
  induction w with
  | zero =>
    intro i hiZ
    have ei : i = n := by omega
    subst ei
    have hz : cbI mv I i 1448 2 = i := by rw [cbI_o (by decide) i (fun j hj => by unfold tX; omega)]; exact hL.sz
    refine VE.iload_n (pc' := 11) d_Engine_comeBack_10 rfl rfl ?_
    refine VE.aload_n (pc' := 12) d_Engine_comeBack_11 rfl rfl ?_
    refine VE.gP (ci := 0) (T := T0) (N := 8) (k := 2) (k' := 2) (pc' := 15) d_Engine_comeBack_12 rfl lk_Engine_21 in0 rfl rfl rfl rfl (by first | exact hC.k 9 rfl | exact hC.k 53 rfl | exact hC.k 23 rfl | exact hTZ.1.1) (by first | exact hC.p 17 rfl | exact hC.p 18 rfl | exact hC.p 32 rfl | rfl) ?_
    refine VE.cV (ci := 12) (T := T12) (N := 3) (pc' := 18) d_Engine_comeBack_15 rfl mv_java_util_ArrayList_size lk_Engine_57 rfl (by first | exact hC.k 9 rfl | exact hC.k 53 rfl | exact hC.k 23 rfl | exact hTZ.1.1) rfl rfl rfl (by show cs + 0 ≤ X; omega) (by show ns + 0 ≤ Y; omega) (sp_java_util_ArrayList_size (hC.k 53 rfl)) rfl rfl ?_
    rw [hz]
    refine VE.icmp_ge (tgt := 52) (pc' := 21) d_Engine_comeBack_18 rfl rfl (fun c18 => ?_) (fun c18 => ?_)
    case refine_2 => exact absurd c18 (by omega)
    refine VE.pick [0] ?_
    exact hQ
  | succ w ihZ =>
    intro i hiZ
    have hi' : i < n := by omega
    have hz : cbI mv I i 1448 2 = n := by rw [cbI_o (by decide) i (fun j hj => by unfold tX; omega)]; exact hL.sz
    have el := hL.el hi'
    have hTZ := hL.tx hi'
    have em : ∀ a, a < 128 → cbI mv I i (tX i + a) = I (tX i + a) := fun a ha => cbI_me (i := i) a ha
    have hN' : TxN (cbI mv I i) i (lv i) (mv i) := (hN i hi').fl ⟨hTZ.2.2.2.2.1, hTZ.2.2.2.2.2⟩ (fun o ho => by
      unfold nTx at ho
      have := em (o - tX i) (by omega)
      rw [show tX i + (o - tX i) = o by omega] at this
      exact this)
    have n9 := ihZ (i + 1) (by omega)
    rw [show ((i + 1 : Nat) : Int) = (i : Int) + 1 by omega] at n9
    clear ihZ
    have spF := sp_Engine_finish (J := J) (ph := 3) hC hTZ hN'
    have spO := sp_Transaction_isOpen (J := J) (I := cbI mv I i) hTZ.1
    refine VE.iload_n (pc' := 11) d_Engine_comeBack_10 rfl rfl ?_
    refine VE.aload_n (pc' := 12) d_Engine_comeBack_11 rfl rfl ?_
    refine VE.gP (ci := 0) (T := T0) (N := 8) (k := 2) (k' := 2) (pc' := 15) d_Engine_comeBack_12 rfl lk_Engine_21 in0 rfl rfl rfl rfl (by first | exact hC.k 9 rfl | exact hC.k 53 rfl | exact hC.k 23 rfl | exact hTZ.1.1) (by first | exact hC.p 17 rfl | exact hC.p 18 rfl | exact hC.p 32 rfl | rfl) ?_
    refine VE.cV (ci := 12) (T := T12) (N := 3) (pc' := 18) d_Engine_comeBack_15 rfl mv_java_util_ArrayList_size lk_Engine_57 rfl (by first | exact hC.k 9 rfl | exact hC.k 53 rfl | exact hC.k 23 rfl | exact hTZ.1.1) rfl rfl rfl (by show cs + 0 ≤ X; omega) (by show ns + 0 ≤ Y; omega) (sp_java_util_ArrayList_size (hC.k 53 rfl)) rfl rfl ?_
    rw [hz]
    refine VE.icmp_ge (tgt := 52) (pc' := 21) d_Engine_comeBack_18 rfl rfl (fun c18 => ?_) (fun c18 => ?_)
    case refine_1 => exact absurd c18 (by omega)
    refine VE.aload_n (pc' := 22) d_Engine_comeBack_21 rfl rfl ?_
    refine VE.gP (ci := 0) (T := T0) (N := 8) (k := 2) (k' := 2) (pc' := 25) d_Engine_comeBack_22 rfl lk_Engine_21 in0 rfl rfl rfl rfl (by first | exact hC.k 9 rfl | exact hC.k 53 rfl | exact hC.k 23 rfl | exact hTZ.1.1) (by first | exact hC.p 17 rfl | exact hC.p 18 rfl | exact hC.p 32 rfl | rfl) ?_
    refine VE.iload_n (pc' := 26) d_Engine_comeBack_25 rfl rfl ?_
    refine VE.cV (ci := 12) (T := T12) (N := 3) (pc' := 29) d_Engine_comeBack_26 rfl mv_java_util_ArrayList_get lk_Engine_61 rfl (by first | exact hC.k 9 rfl | exact hC.k 53 rfl | exact hC.k 23 rfl | exact hTZ.1.1) rfl rfl rfl (by show cs + 0 + 0 ≤ X; omega) (by show ns + 0 + 0 ≤ Y; omega) (sp_java_util_ArrayList_get (i := (i : Int)) hL.al (by rw [hz]; omega) (by rw [hz]; omega)) rfl rfl ?_
    rw [el]
    refine VE.cast (ci := 8) (T := T8) (NN := 19) (pc' := 32) d_Engine_comeBack_29 rfl lk_Engine_65 rfl (by first | exact hC.k 9 rfl | exact hC.k 53 rfl | exact hC.k 23 rfl | exact hTZ.1.1) ?_
    refine VE.astore_n (pc' := 33) d_Engine_comeBack_32 rfl rfl ?_
    refine VE.aload_n (pc' := 34) d_Engine_comeBack_33 rfl rfl ?_
    refine VE.cV (ci := 8) (T := T8) (N := 19) (pc' := 37) d_Engine_comeBack_34 rfl mv_Transaction_isOpen lk_Engine_67 rfl (by first | exact hC.k 9 rfl | exact hC.k 53 rfl | exact hC.k 23 rfl | exact hTZ.1.1) rfl rfl rfl (by show cs + 0 + 0 + 0 ≤ X; omega) (by show ns + 0 + 0 + 0 ≤ Y; omega) (spO) rfl rfl ?_
    refine VE.if_eq (tgt := 46) (pc' := 40) d_Engine_comeBack_37 rfl rfl (fun c37 => ?_) (fun c37 => ?_)
    · try have e37 := bIe c37
      refine VE.iinc (pc' := 49) d_Engine_comeBack_46 rfl rfl rfl (by omega) ?_
      refine VE.goto (pc' := 10) d_Engine_comeBack_49 rfl ?_
      refine VE.pick [0, 2] ?_
      first | (rw [cbI_y (bIn c37)] at n9; exact n9) | (rw [cbI_n (bIe c37)] at n9; exact n9)
    · try have e37 := bIn c37
      refine VE.aload_n (pc' := 41) d_Engine_comeBack_40 rfl rfl ?_
      refine VE.aload_n (pc' := 42) d_Engine_comeBack_41 rfl rfl ?_
      refine VE.iconst (pc' := 43) d_Engine_comeBack_42 rfl (by decide) ?_
      refine VE.cV (ci := 0) (T := T0) (N := 8) (pc' := 46) d_Engine_comeBack_43 rfl mv_Engine_finish lk_Engine_175 rfl (by first | exact hC.k 9 rfl | exact hC.k 53 rfl | exact hC.k 23 rfl | exact hTZ.1.1) rfl rfl rfl (by show cs + 0 + 0 + 0 + 0 ≤ X; omega) (by show ns + 0 + 0 + 0 + 0 ≤ Y; omega) (spF) rfl rfl ?_
      refine VE.iinc (pc' := 49) d_Engine_comeBack_46 rfl rfl rfl (by omega) ?_
      refine VE.goto (pc' := 10) d_Engine_comeBack_49 rfl ?_
      refine VE.pick [0, 2] ?_
      first | (rw [cbI_y (bIn c37)] at n9; exact n9) | (rw [cbI_n (bIe c37)] at n9; exact n9)
/-- the ends of a crash -/
def CrE (K : KT) (P : PT) (J I S : IT) (n g lq x : Nat) (lv mv : Nat → Nat) (q : Int) : PE := fun r K' P' J' I' c z => J' = J ∧ ∃ (N' g' : Nat), r = .inl (some (vI (mCrR S x).2)) ∧ CB K' P' I' n N' g' lq lv mv ∧ ER I' (up2 (mCrR S x).1 100 45 ((mCrR S x).1 100 44)) n N' g' lv mv q ∧ (c + g = g' ∧ z + lgP g = lgP g') ∧ (∀ j, j < n → I' (tX j) 14 = I (tX j) 14) ∧ Fr (nEn n) K P I K' P' I'
theorem mCr2_up (S : IT) {m k : Nat} (h : m ≤ k) : (mCr2 S m).2 ≤ (mCr2 S k).2 := by
  induction k with
  | zero => rw [show m = 0 by omega]; exact Int.le_refl _
  | succ k ihZ =>
    by_cases eZ : m = k + 1
    · rw [eZ]; exact Int.le_refl _
    · have := ihZ (by omega)
      by_cases cZ : mLeftG (mCr2 S k).1 k
      · have h0 := (mUndoes_n (mCr2 S k).1 k).1
        rw [mCr2_yes cZ]
        show _ ≤ (mCr2 S k).2 + (mUnR (mCr2 S k).1 k).2
        omega
      · rw [mCr2_no cZ]; exact this
theorem cntI_iff2 {a b : Int → Prop} : ∀ m : Nat, (∀ k : Nat, k < m → (a k ↔ b k)) → cntI a m = cntI b m := by
  intro m
  induction m with
  | zero => intro _; rfl
  | succ m ihZ =>
    intro hZ
    show cntI a m + bI (a m) = cntI b m + bI (b m)
    rw [ihZ (fun k hk => hZ k (by omega)), bIc (hZ m (by omega))]
theorem mCr2_rg (S : IT) (m : Nat) : 0 ≤ (mCr2 S m).2 := (mCr2_n S m).1
theorem un_loop {I0 : IT} {g0 x0 : Nat} (K0 : KT) (P0 : PT) (hg0 : g0 < 10) (h45 : ∀ k, k ≤ n → (mCr2 S k).1 100 44 ≤ 16383) (hr : 0 ≤ (mCr2 S n).2 ∧ (mCr2 S n).2 ≤ 100000) (hY : 10 ≤ X ∧ 524288 ≤ Y) (hno : ∀ j : Nat, j < n → S 221 j = 2 ∨ S 221 j = 3) (h2 : ∀ j : Nat, j < n → S 221 j = 2 → ¬ mLeftG S j) (hleft : ∀ i : Nat, i < n → (I0 1197 (i : Int) ≠ 0 ↔ mLeftG S i))
    (hQ : ∀ (K1 : KT) (P1 : PT) (I1 : IT) (N1 g1 c z : Nat), CB K1 P1 I1 n N1 g1 lq lv mv → ER I1 (mCr2 S n).1 n N1 g1 lv mv q → (c + g0 = g1 ∧ z + lgP g0 = lgP g1) → Fr (nLg) K0 P0 I0 K1 P1 I1 → VE m_Engine_comeBack false (RmC X Y) Q K1 P1 J I1 c z 103 [(0, vR (some 1064)), (2, vI (mCr2 S n).2)] []) : ∀ (w i : Nat) (K1 : KT) (P1 : PT) (I1 : IT) (N1 g1 c z : Nat), i + w = n → CB K1 P1 I1 n N1 g1 lq lv mv → ER I1 (mCr2 S i).1 n N1 g1 lv mv q → (c + g0 = g1 ∧ z + lgP g0 = lgP g1) → Fr (nLg) K0 P0 I0 K1 P1 I1 → (∀ j : Nat, i ≤ j → j < n → (mLeftG (mCr2 S i).1 j ↔ mLeftG S j)) → VE m_Engine_comeBack false (RmC X Y) Q K1 P1 J I1 c z 63 [(0, vR (some 1064)), (2, vI (mCr2 S i).2), (3, vI (i : Int))] [] := by
  intro w
  induction w with
  | zero =>
    intro i K1 P1 I1 N1 g1 c z hiZ hBZ hE hp hF _
    have ei : i = n := by omega
    subst ei
    have hC := hBZ.c
    have hL := hBZ.e
    have hz := hL.sz
    have g10 := hBZ.g10
    have l9 := lgP_le g10
    have nx := hQ K1 P1 I1 N1 g1 c z hBZ hE hp hF
    refine VE.iload_n (pc' := 64) d_Engine_comeBack_63 rfl rfl ?_
    refine VE.aload_n (pc' := 65) d_Engine_comeBack_64 rfl rfl ?_
    refine VE.gP (ci := 0) (T := T0) (N := 8) (k := 2) (k' := 2) (pc' := 68) d_Engine_comeBack_65 rfl lk_Engine_21 in0 rfl rfl rfl rfl (by first | exact hC.k 9 rfl | exact hC.k 53 rfl | exact hC.k 23 rfl | exact hT.1.1) (by first | exact hC.p 17 rfl | exact hC.p 18 rfl | exact hC.p 32 rfl | rfl) ?_
    refine VE.cV (ci := 12) (T := T12) (N := 3) (pc' := 71) d_Engine_comeBack_68 rfl mv_java_util_ArrayList_size lk_Engine_57 rfl (by first | exact hC.k 9 rfl | exact hC.k 53 rfl | exact hC.k 23 rfl | exact hT.1.1) rfl rfl rfl (by show c + 0 ≤ X; omega) (by show z + 0 ≤ Y; omega) (sp_java_util_ArrayList_size (hC.k 53 rfl)) rfl rfl ?_
    rw [hz]
    refine VE.icmp_ge (tgt := 103) (pc' := 74) d_Engine_comeBack_71 rfl rfl (fun c71 => ?_) (fun c71 => ?_)
    case refine_2 => exact absurd c71 (by omega)
    refine VE.pick [0, 2] ?_
    exact nx
  | succ w ihZ =>
    intro i K1 P1 I1 N1 g1 c z hiZ hBZ hE hp hF hrest
    have hi' : i < n := by omega
    have hC := hBZ.c
    have hL := hBZ.e
    have h60 := hL.2.1
    have hz := hL.sz
    have g10 := hBZ.g10
    have l9 := lgP_le g10
    have fo := mCr2_n S i
    have e221 : ∀ j : Nat, (mCr2 S i).1 221 j = S 221 j := fun j => fo.2.2 221 j (by omega) (by omega)
    have e97Z : I1 1197 (i : Int) = I0 1197 (i : Int) := by rw [(hF 1197 (by unfold nLg; omega)).2.2]
    have lfZ := hleft i hi'
    have lr := hrest i (Nat.le_refl _) hi'
    have hno1 : ∀ j, ¬ opS (mCr2 S i).1 n j := fun j hj => by
      have := hno j hj.1
      have := hj.2
      rw [e221] at this
      omega
    have rg := fo.1
    have rg1 : (mCr2 S i).2 ≤ 100000 ∧ (mCr2 S (i + 1)).2 ≤ 100000 := ⟨Int.le_trans (mCr2_up S (by omega)) hr.2, Int.le_trans (mCr2_up S (by omega)) hr.2⟩
    by_cases hcZ : mLeftG S i
    · have hc1 := lr.mpr hcZ
      have h3 : S 221 i = 3 := (hno i hi').resolve_left (fun z => h2 i hi' z hcZ)
      have e44 := hE.cnt.2.1
      obtain ⟨hX, hX2⟩ := mUndoes_X (S := (mCr2 S i).1) (i := (i : Int)) e44
      have e2Z := mCr2_yes (S := S) (n := i) hc1
      have upZ := h45 (i + 1) (by omega)
      rw [e2Z] at upZ
      have up2' : ((N1 + (crL (mCr2 S i).1 i N1).length : Nat) : Int) ≤ 16383 := by rw [← hX.2.1]; exact upZ
      have lenZ : (crL (mCr2 S i).1 i N1).length = (unU (mCr2 S i).1 i N1 (nUn (mCr2 S i).1 i N1)).length + 1 := by unfold crL; rw [List.length_append]; rfl
      have eL := undL_eqU (I := I1) (S := (mCr2 S i).1) (g := g1) (i := (i : Int)) hE.lg.2 N1 (nUn (mCr2 S i).1 i N1) (Nat.le_refl _)
      have lenL : (undL I1 g1 i N1 (nUn (mCr2 S i).1 i N1)).length = (unU (mCr2 S i).1 i N1 (nUn (mCr2 S i).1 i N1)).length := by rw [eL, List.length_map]
      have hu : ((nUn (mCr2 S i).1 i N1 : Nat) : Int) = cntI (fun k => lgF I1 g1 k 0 = 2 ∧ lgF I1 g1 k 1 = i) N1 := by
        have := cntI_rg (mUnG (mCr2 S i).1 i) N1
        have e9Z : cntI (mUnG (mCr2 S i).1 i) N1 = cntI (fun k => lgF I1 g1 k 0 = 2 ∧ lgF I1 g1 k 1 = i) N1 := cntI_iff2 N1 (fun k hk => by
          have := hE.lg.2 k hk
          show (mCr2 S i).1 246 k = 2 ∧ (mCr2 S i).1 247 k = i ↔ lgF I1 g1 k 0 = 2 ∧ lgF I1 g1 k 1 = i
          rw [this.1, this.2.1])
        rw [← e9Z]
        unfold nUn
        omega
      obtain ⟨g2, c2Z, m2Z, K2, P2Z, I2Z, ⟨v1Z, v2⟩, f2Z, r2, x2Z, spU⟩ := undo_ex (J := J) (u := nUn (mCr2 S i).1 i N1) (i := (i : Int)) hBZ.v hBZ.l (fun k k0 k1 hk => by
        have eZ := hE.lg.2 k.toNat (by omega)
        have e9Z := hE.lr.1 k k0 k1
        unfold lgF at eZ
        rw [show ((k.toNat : Nat) : Int) = k by omega, Int.add_zero] at eZ
        rw [eZ.1] at hk
        rw [eZ.2.1]
        have := e9Z.2 (by omega)
        omega) hu (by rw [lenL]; omega)
      have C2Z := hC.lg hBZ.v v1Z f2Z
      have lg10 := v1Z.2.2
      have lg9 := lgP_le lg10
      have B2 : CB K2 P2Z I2Z n (N1 + (crL (mCr2 S i).1 i N1).length) g2 lq lv mv := by
        refine hBZ.tr hi' C2Z ⟨v1Z, ?_⟩ ⟨(hL.tx hi').fl (fun o ho => ⟨(f2Z o (lg_tx (by omega) ho)).1, (f2Z o (lg_tx (by omega) ho)).2.1⟩), (hBZ.t hi').2.1.fl (hBZ.lev i hi') (fun o ho => (f2Z o (lg_tx (by omega) ho)).2.2), ?_⟩ (fun _ _ => ⟨rfl, rfl⟩) (fun o aZ bZ d => f2Z o bZ)
        · rw [lenZ, ← lenL, ← Nat.add_assoc]; exact v2
        · rw [(f2Z (tX i) (lg_tx (i := i) (by omega) (by unfold nTx; omega))).2.2]; exact (hBZ.t hi').2.2
      have E2 : ER I2Z (mUndoes (mCr2 S i).1 i) n (N1 + (crL (mCr2 S i).1 i N1).length) g2 lv mv q := by
        refine hE.logged hBZ.lev g10 hno1 hi' (by rw [e221]; omega) hX (fun y hy => crL_mem hy) (by omega) (fun o ho => (f2Z o ho).2.2) ⟨?_, x2Z.2.2 1 (by decide)⟩ (fun r hr => ?_) (fun r f hr f0 f1 => x2Z.1 r f hr f0 f1)
        · have := v2.1
          rw [this, lenZ, lenL]
          rfl
        · by_cases eZ : r < N1
          · have o1 := hE.lg.2 r eZ
            have o2 := hX.2.2.1 (r : Int) (by omega)
            rw [x2Z.1 r 0 eZ (by decide) (by decide), x2Z.1 r 1 eZ (by decide) (by decide), x2Z.1 r 2 eZ (by decide) (by decide), x2Z.1 r 3 eZ (by decide) (by decide), o2.1, o2.2.1, o2.2.2.1, o2.2.2.2]
            exact o1
          · have hj : r - N1 < (crL (mCr2 S i).1 i N1).length := by omega
            have g1' := List.getElem?_eq_getElem hj
            have hj2 : (undL I1 g1 i N1 (nUn (mCr2 S i).1 i N1) ++ [rcN 3 i (-2147483648) (-2147483648)]) = (crL (mCr2 S i).1 i N1).map (fun y => rcN y.1 y.2.1 y.2.2.1 y.2.2.2) := by
              unfold crL
              rw [eL, List.map_append]; rfl
            have aZ := x2Z.2.1 (r - N1) (rcN (crL (mCr2 S i).1 i N1)[r - N1].1 (crL (mCr2 S i).1 i N1)[r - N1].2.1 (crL (mCr2 S i).1 i N1)[r - N1].2.2.1 (crL (mCr2 S i).1 i N1)[r - N1].2.2.2) (by rw [hj2, List.getElem?_map, g1']; rfl)
            have bZ := hX.2.2.2 (r - N1) _ g1'
            rw [show N1 + (r - N1) = r by omega] at aZ bZ
            rw [aZ 0 (by decide) (by decide), aZ 1 (by decide) (by decide), aZ 2 (by decide) (by decide), aZ 3 (by decide) (by decide), bZ.1, bZ.2.1, bZ.2.2.1, bZ.2.2.2]
            exact ⟨rfl, rfl, rfl, rfl⟩
      have nx := ihZ (i + 1) K2 P2Z I2Z (N1 + (crL (mCr2 S i).1 i N1).length) g2 (c + c2Z) (z + m2Z) (by omega) B2 (by rw [e2Z]; exact E2) ⟨by omega, by omega⟩ (fun o ho => ⟨(f2Z o ho).1.trans (hF o ho).1, (f2Z o ho).2.1.trans (hF o ho).2.1, (f2Z o ho).2.2.trans (hF o ho).2.2⟩) (fun j j0 j1 => by
        rw [e2Z]
        exact (left_same hX e44 (fun y hy => (crL_mem hy).2) (by omega)).trans (hrest j (by omega) j1))
      rw [e2Z, hX2, show ((i + 1 : Nat) : Int) = (i : Int) + 1 by omega] at nx
      have rg2 := rg1.2
      rw [e2Z, hX2] at rg2
      have rg3 : (mCr2 S i).2 + ((unU (mCr2 S i).1 i N1 (nUn (mCr2 S i).1 i N1)).length : Int) ≤ 100000 := rg2
      rw [lenL] at spU
      clear ihZ
      have ne0 : I1 1197 (i : Int) ≠ 0 := by rw [e97Z]; exact lfZ.mpr hcZ
      refine VE.iload_n (pc' := 64) d_Engine_comeBack_63 rfl rfl ?_
      refine VE.aload_n (pc' := 65) d_Engine_comeBack_64 rfl rfl ?_
      refine VE.gP (ci := 0) (T := T0) (N := 8) (k := 2) (k' := 2) (pc' := 68) d_Engine_comeBack_65 rfl lk_Engine_21 in0 rfl rfl rfl rfl (by first | exact hC.k 9 rfl | exact hC.k 53 rfl | exact hC.k 23 rfl | exact hC.k 25 rfl) (by first | exact hC.p 17 rfl | exact hC.p 18 rfl | exact hC.p 32 rfl | rfl) ?_
      refine VE.cV (ci := 12) (T := T12) (N := 3) (pc' := 71) d_Engine_comeBack_68 rfl mv_java_util_ArrayList_size lk_Engine_57 rfl (by first | exact hC.k 9 rfl | exact hC.k 53 rfl | exact hC.k 23 rfl | exact hC.k 25 rfl) rfl rfl rfl (by show c + 0 ≤ X; omega) (by show z + 0 ≤ Y; omega) (sp_java_util_ArrayList_size (hC.k 53 rfl)) rfl rfl ?_
      rw [hz]
      refine VE.icmp_ge (tgt := 103) (pc' := 74) d_Engine_comeBack_71 rfl rfl (fun c71 => ?_) (fun c71 => ?_)
      case refine_1 => exact absurd c71 (by omega)
      refine VE.aload_n (pc' := 75) d_Engine_comeBack_74 rfl rfl ?_
      refine VE.gP (ci := 0) (T := T0) (N := 8) (k := 3) (k' := 3) (pc' := 78) d_Engine_comeBack_75 rfl lk_Engine_28 in0 rfl rfl rfl rfl (by first | exact hC.k 9 rfl | exact hC.k 53 rfl | exact hC.k 23 rfl | exact hC.k 25 rfl) (by first | exact hC.p 17 rfl | exact hC.p 18 rfl | exact hC.p 32 rfl | rfl) ?_
      refine VE.gP (ci := 2) (T := T2) (N := 5) (k := 4) (k' := 4) (pc' := 81) d_Engine_comeBack_78 rfl lk_Engine_246 in2 rfl rfl rfl rfl (by first | exact hC.k 9 rfl | exact hC.k 53 rfl | exact hC.k 23 rfl | exact hC.k 25 rfl) (by first | exact hC.p 17 rfl | exact hC.p 18 rfl | exact hC.p 32 rfl | rfl) ?_
      refine VE.iload_n (pc' := 82) d_Engine_comeBack_81 rfl rfl ?_
      refine VE.zld (pc' := 83) d_Engine_comeBack_82 rfl (by first | exact hC.k 9 rfl | exact hC.k 53 rfl | exact hC.k 23 rfl | exact hC.k 25 rfl) (by omega) (by omega) (by first | exact hC.p 17 rfl | exact hC.p 18 rfl | exact hC.p 32 rfl | rfl) ?_
      refine VE.if_eq (tgt := 97) (pc' := 86) d_Engine_comeBack_83 rfl rfl (fun c83 => ?_) (fun c83 => ?_)
      case refine_1 => exact absurd c83 (ne0)
      refine VE.iload_n (pc' := 87) d_Engine_comeBack_86 rfl rfl ?_
      refine VE.aload_n (pc' := 88) d_Engine_comeBack_87 rfl rfl ?_
      refine VE.gP (ci := 0) (T := T0) (N := 8) (k := 3) (k' := 3) (pc' := 91) d_Engine_comeBack_88 rfl lk_Engine_28 in0 rfl rfl rfl rfl (by first | exact hC.k 9 rfl | exact hC.k 53 rfl | exact hC.k 23 rfl | exact hC.k 25 rfl) (by first | exact hC.p 17 rfl | exact hC.p 18 rfl | exact hC.p 32 rfl | rfl) ?_
      refine VE.iload_n (pc' := 92) d_Engine_comeBack_91 rfl rfl ?_
      refine VE.cV (ci := 2) (T := T2) (N := 5) (pc' := 95) d_Engine_comeBack_92 rfl mv_Log_undoWrites lk_Engine_172 rfl (by first | exact hC.k 9 rfl | exact hC.k 53 rfl | exact hC.k 23 rfl | exact hC.k 25 rfl) rfl rfl rfl (by show c + 0 + c2Z ≤ X; omega) (by show z + 0 + m2Z ≤ Y; omega) (spU) rfl rfl ?_
      refine VE.iadd (pc' := 96) d_Engine_comeBack_95 rfl (by omega) ?_
      refine VE.istore_n (pc' := 97) d_Engine_comeBack_96 rfl rfl ?_
      refine VE.iinc (pc' := 100) d_Engine_comeBack_97 rfl rfl rfl (by omega) ?_
      refine VE.goto (pc' := 63) d_Engine_comeBack_100 rfl ?_
      refine VE.pick [0, 2, 3] ?_
      exact nx
    · have hc1 : ¬ mLeftG (mCr2 S i).1 i := fun y => hcZ (lr.mp y)
      have e2Z := mCr2_no (S := S) (n := i) hc1
      have nx := ihZ (i + 1) K1 P1 I1 N1 g1 c z (by omega) hBZ (by rw [e2Z]; exact hE) hp hF (fun j j0 j1 => by rw [e2Z]; exact hrest j (by omega) j1)
      rw [e2Z, show ((i + 1 : Nat) : Int) = (i : Int) + 1 by omega] at nx
      clear ihZ
      have eq0 : I1 1197 (i : Int) = 0 := by rw [e97Z]; exact Classical.byContradiction (fun y => hcZ (lfZ.mp y))
      refine VE.iload_n (pc' := 64) d_Engine_comeBack_63 rfl rfl ?_
      refine VE.aload_n (pc' := 65) d_Engine_comeBack_64 rfl rfl ?_
      refine VE.gP (ci := 0) (T := T0) (N := 8) (k := 2) (k' := 2) (pc' := 68) d_Engine_comeBack_65 rfl lk_Engine_21 in0 rfl rfl rfl rfl (by first | exact hC.k 9 rfl | exact hC.k 53 rfl | exact hC.k 23 rfl | exact hC.k 25 rfl) (by first | exact hC.p 17 rfl | exact hC.p 18 rfl | exact hC.p 32 rfl | rfl) ?_
      refine VE.cV (ci := 12) (T := T12) (N := 3) (pc' := 71) d_Engine_comeBack_68 rfl mv_java_util_ArrayList_size lk_Engine_57 rfl (by first | exact hC.k 9 rfl | exact hC.k 53 rfl | exact hC.k 23 rfl | exact hC.k 25 rfl) rfl rfl rfl (by show c + 0 ≤ X; omega) (by show z + 0 ≤ Y; omega) (sp_java_util_ArrayList_size (hC.k 53 rfl)) rfl rfl ?_
      rw [hz]
      refine VE.icmp_ge (tgt := 103) (pc' := 74) d_Engine_comeBack_71 rfl rfl (fun c71 => ?_) (fun c71 => ?_)
      case refine_1 => exact absurd c71 (by omega)
      refine VE.aload_n (pc' := 75) d_Engine_comeBack_74 rfl rfl ?_
      refine VE.gP (ci := 0) (T := T0) (N := 8) (k := 3) (k' := 3) (pc' := 78) d_Engine_comeBack_75 rfl lk_Engine_28 in0 rfl rfl rfl rfl (by first | exact hC.k 9 rfl | exact hC.k 53 rfl | exact hC.k 23 rfl | exact hC.k 25 rfl) (by first | exact hC.p 17 rfl | exact hC.p 18 rfl | exact hC.p 32 rfl | rfl) ?_
      refine VE.gP (ci := 2) (T := T2) (N := 5) (k := 4) (k' := 4) (pc' := 81) d_Engine_comeBack_78 rfl lk_Engine_246 in2 rfl rfl rfl rfl (by first | exact hC.k 9 rfl | exact hC.k 53 rfl | exact hC.k 23 rfl | exact hC.k 25 rfl) (by first | exact hC.p 17 rfl | exact hC.p 18 rfl | exact hC.p 32 rfl | rfl) ?_
      refine VE.iload_n (pc' := 82) d_Engine_comeBack_81 rfl rfl ?_
      refine VE.zld (pc' := 83) d_Engine_comeBack_82 rfl (by first | exact hC.k 9 rfl | exact hC.k 53 rfl | exact hC.k 23 rfl | exact hC.k 25 rfl) (by omega) (by omega) (by first | exact hC.p 17 rfl | exact hC.p 18 rfl | exact hC.p 32 rfl | rfl) ?_
      refine VE.if_eq (tgt := 97) (pc' := 86) d_Engine_comeBack_83 rfl rfl (fun c83 => ?_) (fun c83 => ?_)
      case refine_2 => exact absurd c83 (fun z => z eq0)
      refine VE.iinc (pc' := 100) d_Engine_comeBack_97 rfl rfl rfl (by omega) ?_
      refine VE.goto (pc' := 63) d_Engine_comeBack_100 rfl ?_
      refine VE.pick [0, 2, 3] ?_
      exact nx
end
