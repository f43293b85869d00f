/-! settling -/
section
variable {M : MD} {x : Bool} {R : Room} {Q : PE} {K : KT} {P : PT} {J I : IT} {cs n pc pc' : Nat} {L : List (Nat × AV)} {S : List AV}
theorem VE.aload_nN {i : Fin 4} (d : decode M.2.1 pc = .ok (.aload_n i, 1)) (hp : pc + 1 = pc') (h : lkp L (i : Nat) = some (vR none)) (k : VE M x R Q K P J I cs n pc' L (vR none :: S)) : VE M x R Q K P J I cs n pc L S := by
  subst hp
  exact VE.go k (fun X hl kk => lv_aload_nN X.1.1 X.1.2.1 d rfl (lkp_at h hl) (kk _ (WFs.cons (X.2.2.2.2.2.1.at h) X.2.2.2.2.1) X.2.2.2.2.2.1 hl))
theorem VE.aloadN {i : Nat} (d : decode M.2.1 pc = .ok (.aload i, 2)) (hp : pc + 2 = pc') (h : lkp L i = some (vR none)) (k : VE M x R Q K P J I cs n pc' L (vR none :: S)) : VE M x R Q K P J I cs n pc L S := by
  subst hp
  exact VE.go k (fun X hl kk => lv_aloadN X.1.1 X.1.2.1 d (lkp_at h hl) (kk _ (WFs.cons (X.2.2.2.2.2.1.at h) X.2.2.2.2.1) X.2.2.2.2.2.1 hl))
theorem VE.astore_nN {i : Fin 4} (d : decode M.2.1 pc = .ok (.astore_n i, 1)) (hp : pc + 1 = pc') (hi : Nat.ble ((i : Nat) + 1) M.2.2.1 = true) (k : VE M x R Q K P J I cs n pc' (st1 L (i : Nat) (vR none)) S) : VE M x R Q K P J I cs n pc L (vR none :: S) := by
  subst hp
  exact VE.go k (fun {_ _ _ _ _ _ _ _ _ _ _ ad _ _ _ _ _ _} X hl kk => lv_astore_nN X.1.1 X.1.2.1 d rfl hl (Nat.le_of_ble_eq_true hi) (st1_cl ad L (i : Nat) (vR none)) (fun ls' hl' => kk ls' X.2.2.2.2.1.tl (X.2.2.2.2.2.1.st1 X.2.2.2.2.1.hd) hl'))
theorem VE.astoreN {i : Nat} (d : decode M.2.1 pc = .ok (.astore i, 2)) (hp : pc + 2 = pc') (hi : Nat.ble (i + 1) M.2.2.1 = true) (k : VE M x R Q K P J I cs n pc' (st1 L i (vR none)) S) : VE M x R Q K P J I cs n pc L (vR none :: S) := by
  subst hp
  exact VE.go k (fun {_ _ _ _ _ _ _ _ _ _ _ ad _ _ _ _ _ _} X hl kk => lv_astoreN X.1.1 X.1.2.1 d hl (Nat.le_of_ble_eq_true hi) (st1_cl ad L i (vR none)) (fun ls' hl' => kk ls' X.2.2.2.2.1.tl (X.2.2.2.2.2.1.st1 X.2.2.2.2.1.hd) hl'))
end
section
variable {J : IT} {n lq : Nat} {q : Int} {Q : PE} {Z : Int → IT → Prop} {X Y C0 S0 : Nat}
/-- a property of the reference's states that bounds the records -/
def ZOK (Z : Int → IT → Prop) : Prop := (∀ (I S : IT) (n N g : Nat) (lv mv : Nat → Nat) (q : Int) (i : Nat), ER I S n N g lv mv q → i < n → mFreed S i → Z (-1) S → Z i (mGo S i)) ∧ ∀ (I S : IT) (n N g : Nat) (lv mv : Nat → Nat) (q : Int) (i : Nat), ER I S n N g lv mv q → i < n → S 221 i = 0 → PdE I S i → Z i S → (mWantQ (up2 S 100 41 0) i → RcB (mWantI (up2 S 100 41 0) i) i) ∧ Z (-1) (mTry1 S i)
theorem ER.go {I S : IT} {N g i : Nat} {lv mv : Nat → Nat} (h : ER I S n N g lv mv q) (hl : ∀ j, j < n → lv j < 15 ∧ mv j < 15) (hg : g < 10) (hi : i < n) (ho : S 221 i < 2) : ER (up2 (up2 I (tX i) 4 0) (tX i) 6 (-1)) (mGo S i) n N g lv mv q := by
  have t := (h.tx i hi).1
  have e21 : mGo S i 221 i = 0 := by unfold mGo; rw [up2_o _ _ _ _ (by decide), up2_eq]
  have e25 : mGo S i 225 i = -1 := by unfold mGo; rw [up2_eq]
  refine h.sca hl hg ⟨hi, ho⟩ (fun o k ho => (if_neg (fun z => ho ⟨Or.inr (Or.inr z.1), z.2⟩)).trans (if_neg (fun z => ho ⟨Or.inl z.1, z.2⟩))) (fun o k ho => (if_neg (fun z => ho ⟨z.1, Or.inr (Or.inr z.2)⟩)).trans (if_neg (fun z => ho ⟨z.1, Or.inl z.2⟩))) ?_ ?_ ?_ (by rw [e21]; omega) ⟨fun z => by rw [e21] at z; omega, fun _ => e25⟩ (h.ac.cut (fun y => ?_)) (fun z => by rw [e21] at z; omega)
  · rw [e21, up2_k _ _ _ _ (by decide), up2_eq]
  · unfold mGo
    rw [up2_k _ _ _ _ (by decide), up2_k _ _ _ _ (by decide), up2_o _ _ _ _ (by decide), up2_o _ _ _ _ (by decide)]; exact t.2.2.2.2.1
  · rw [e25, up2_eq]
  · by_cases e : y = (i : Int)
    · rw [e]; exact Or.inr e25
    · unfold mGo
      rw [up2_k _ _ _ _ e, up2_o _ _ _ _ (by decide)]; exact Or.inl rfl
/-- what is to be shown of settling from S -/
def EndT (Q : PE) (Z : Int → IT → Prop) (K : KT) (P : PT) (J I S : IT) (n g lq : Nat) (lv mv : Nat → Nat) (q : Int) (cs ns : Nat) : Prop := ∀ (m' : Nat) (K' : KT) (P' : PT) (I' : IT) (c z N' g' : Nat) (lv' mv' : Nat → Nat), CB K' P' I' n N' g' lq lv' mv' → ER I' (mSettle m' S) n N' g' lv' mv' q → SetOK m' S → Z (-1) (mSettle m' S) → (c + pC g n lv mv = pC g' n lv' mv' ∧ z + pS g n lv mv = pS g' n lv' mv') → (∀ j, j < n → I' (tX j) 14 + 5 * mM (mSettle m' S) n ≤ I (tX j) 14 + 5 * mM S n) → Fr (nEn n) K P I K' P' I' → Q (.inl none) K' P' J I' (cs + c) (ns + z)
theorem settle_body {K : KT} {P : PT} {I S : IT} {N g i : Nat} {lv mv : Nat → Nat} {q' t : Int} {cs ns : Nat} (hB : CB K P I n N g lq lv mv) (hE : ER I S n N g lv mv q) (hi : i < n) (ho : S 221 i < 2) (hp : PdE I S i) (h40 : S 233 i ≤ 2040) (hq : (S 233 i + 4 + 4 * n ≤ q' ∨ ∀ t y, YS S i t y → mRead S i t y) ∧ q ≤ q' ∧ q' ≤ 2048) (h14 : ∀ j, j < n → I (tX j) 14 ≤ 8186) (hZ : ZOK Z) (z1 : Z i (mGo S i)) (ht : 0 ≤ t ∧ t < 1000) (hX : 2100 ≤ X + C0 ∧ 5306448 ≤ Y + S0) (hcs : cs + C0 = pC g n lv mv ∧ ns + S0 = pS g n lv mv)
    (next : ∀ (K' : KT) (P' : PT) (I' : IT) (N' g' : Nat) (lv' mv' : Nat → Nat) (k w : Nat), CB K' P' I' n N' g' lq lv' mv' → ER I' (mTry1 (mGo S i) i) n N' g' lv' mv' q' → Z (-1) (mTry1 (mGo S i) i) → TryP (mGo S i) i → (k + pC g n lv mv = pC g' n lv' mv' ∧ w + pS g n lv mv = pS g' n lv' mv') → (∀ j, j < n → I' (tX j) 14 ≤ I (tX j) 14 + (if j = i then 5 else 0)) → Fr (nEn n) K P I K' P' I' → VE m_Engine_settle false ({ frames := 11, cells := X, slots := Y, locals := 500 } : Room) Q K' P' J I' (cs + k) (ns + w) 15 [(0, vR (some 1064)), (2, vR (lfO I' n)), (3, vI (t + 1))] []) : VE m_Engine_settle false ({ frames := 11, cells := X, slots := Y, locals := 500 } : Room) Q K P J I cs ns 26 [(0, vR (some 1064)), (2, vR (some (tX i))), (3, vI t)] [] := by
  have n60 := hB.e.2.1
  have x0 : 2000 ≤ tX i ∧ tX i + 128 ≤ 10000 ∧ tX i + 128 ≤ 2000 + 128 * n := by unfold tX; omega
  have hC := hB.c
  obtain ⟨hT, -, -⟩ := hB.t hi
  have hx := hT.k
  have E1 := hE.go hB.lev hB.g10 hi ho
  have B1 : CB K P (up2 (up2 I (tX i) 4 0) (tX i) 6 (-1)) n N g lq lv mv := hB.sc hi (fun o k ho => (if_neg (fun z => ho ⟨z.1, Or.inr (Or.inr z.2)⟩)).trans (if_neg (fun z => ho ⟨z.1, Or.inl z.2⟩)))
  have m : ∀ o, o ≠ 221 → o ≠ 225 → mGo S i o = S o := fun o a b => funext (fun k => (up2_o _ _ _ _ b).trans (up2_o _ _ _ _ a))
  have e21 : mGo S i 221 i = 0 := by unfold mGo; rw [up2_o _ _ _ _ (by decide), up2_eq]
  have ek : ∀ k, k ≠ 4 → k ≠ 6 → up2 (up2 I (tX i) 4 0) (tX i) 6 (-1) (tX i) k = I (tX i) k := fun k a b => (up2_k _ _ _ _ b).trans (up2_k _ _ _ _ a)
  have eo : ∀ o, o ≠ tX i → up2 (up2 I (tX i) 4 0) (tX i) 6 (-1) o = I o := fun o a => funext (fun k => (up2_o _ _ _ _ a).trans (up2_o _ _ _ _ a))
  have p1 : PdE (up2 (up2 I (tX i) 4 0) (tX i) 6 (-1)) (mGo S i) i := hp.of ⟨fun k a b => ek k (by omega) (by omega), eo _ (by omega)⟩ (fun o a b => m o (by omega) (by omega)) (m 201 (by decide) (by decide)) (by rw [m 100 (by decide) (by decide)])
  obtain ⟨r1, z2⟩ := hZ.2 _ _ n N g lv mv q i E1 hi e21 p1 z1
  have hq1 : (mGo S i 233 i + 4 + 4 * n ≤ q' ∨ ∀ t y, YS (mGo S i) i t y → mRead (mGo S i) i t y) ∧ q ≤ q' ∧ q' ≤ 2048 := by
    refine ⟨hq.1.imp (fun w => by rw [m 233 (by decide) (by decide)]; exact w) (fun w t y hy => ?_), hq.2⟩
    have := w t y ((YS_of (S := S) (fun o a b => m o (by omega) (by omega)) (m 201 (by decide) (by decide)) (m 206 (by decide) (by decide)) t y).mp hy)
    unfold mRead at *
    rw [m 233 (by decide) (by decide), m 234 (by decide) (by decide), m 235 (by decide) (by decide), m 236 (by decide) (by decide)]
    exact this
  have att := attempt_ex (J := J) B1 E1 hi e21 p1 (by rw [m 233 (by decide) (by decide)]; exact h40) r1 hq1 (by rw [ek 14 (by decide) (by decide)]; exact h14 i hi)
  have pot0 := hB.pot (fun j hj => by have := h14 j hj; omega)
  have st45 : ∀ (K' : KT) (P' : PT) (I' : IT) (k w : Nat) (o : Option Nat), VE m_Engine_settle false ({ frames := 11, cells := X, slots := Y, locals := 500 } : Room) Q K' P' J I' k w 15 [(0, vR (some 1064)), (2, vR o), (3, vI (t + 1))] [] → VE m_Engine_settle false ({ frames := 11, cells := X, slots := Y, locals := 500 } : Room) Q K' P' J I' k w 45 [(0, vR (some 1064)), (2, vR (some (tX i))), (3, vI t)] [vR o] := fun K' P' I' k w o h => by
    have b : VE m_Engine_settle false ({ frames := 11, cells := X, slots := Y, locals := 500 } : Room) Q K' P' J I' k w 46 [(2, vR o), (0, vR (some 1064)), (3, vI t)] [] := by
      refine VE.iinc (pc' := 49) d_Engine_settle_46 rfl rfl rfl (by omega) ?_
      refine VE.goto (pc' := 15) d_Engine_settle_49 rfl ?_
      refine VE.pick [0, 2, 3] ?_
      exact h
    cases o with
    | none => exact VE.astore_nN (pc' := 46) d_Engine_settle_45 rfl rfl (VE.pick [2, 0, 3] b)
    | some o => exact VE.astore_n (pc' := 46) d_Engine_settle_45 rfl rfl (VE.pick [2, 0, 3] b)
  refine VE.aload_n (pc' := 27) d_Engine_settle_26 rfl rfl ?_
  refine VE.iconst (pc' := 28) d_Engine_settle_27 rfl (by decide) ?_
  refine VE.pI (ci := 8) (T := T8) (N := 19) (k := 4) (k' := 4) (ty := ty8) (pc' := 31) d_Engine_settle_28 rfl lk_Engine_118 in8 tk8 nm8 rfl rfl rfl rfl rfl rfl (by first | exact hC.k 9 rfl | exact hx | exact h1) ?_
  refine VE.aload_n (pc' := 32) d_Engine_settle_31 rfl rfl ?_
  refine VE.iconst (pc' := 33) d_Engine_settle_32 rfl (by decide) ?_
  refine VE.pI (ci := 8) (T := T8) (N := 19) (k := 6) (k' := 6) (ty := ty8) (pc' := 36) d_Engine_settle_33 rfl lk_Engine_121 in8 tk8 nm8 rfl rfl rfl rfl rfl rfl (by first | exact hC.k 9 rfl | exact hx | exact h1) ?_
  refine VE.aload_n (pc' := 37) d_Engine_settle_36 rfl rfl ?_
  refine VE.aload_n (pc' := 38) d_Engine_settle_37 rfl rfl ?_
  refine VE.callVE (ci := 0) (T := T0) (N := 8) (pc' := 41) d_Engine_settle_38 rfl att rfl mv_Engine_attempt.1 mv_Engine_attempt.2.1 rfl mv_Engine_attempt.2.2.1 mv_Engine_attempt.2.2.2 lk_Engine_169 rfl (by first | exact hC.k 9 rfl) rfl rfl rfl (by show cs + 100 ≤ X; omega) (by show ns + 850000 ≤ Y; omega) (fun k9 n9 r K' P' J' I' hz => ?_)
  obtain ⟨y1, y2, y3, N', g', lv', mv', b1, b2, b3, b4, b5⟩ := hz
  cases y1
  subst y2
  have b4x : ∀ j, j < n → I' (tX j) 14 ≤ I (tX j) 14 + (if j = i then 5 else 0) := fun j hj => by
    have := b4 j hj
    by_cases e : j = i
    · subst e; rw [ek 14 (by decide) (by decide)] at this; exact this
    · rw [eo _ (by unfold tX; omega)] at this; exact this
  have b5x : Fr (nEn n) K P I K' P' I' := fun o h => ⟨(b5 o h).1, (b5 o h).2.1, (b5 o h).2.2.trans (eo o (fun w => h (by unfold nEn; omega)))⟩
  have pot := b1.pot (fun j hj => by
    have := b4x j hj
    have := h14 j hj
    split at * <;> omega)
  have h1 := b1.c.k 9 rfl
  refine VE.aload_n (pc' := 42) d_Engine_settle_41 rfl rfl ?_
  refine VE.cV (ci := 0) (T := T0) (N := 8) (pc' := 45) d_Engine_settle_42 rfl mv_Engine_lowestFreed lk_Engine_165 rfl (by first | exact hC.k 9 rfl | exact hx | exact h1) rfl rfl rfl (by show cs + k9 + 0 ≤ X; omega) (by show ns + n9 + 0 ≤ Y; omega) (sp_Engine_lowestFreed b1.c b1.e) rfl rfl ?_
  refine VE.nrm ?_
  exact st45 _ _ _ _ _ _ (next K' P' I' N' g' lv' mv' k9 n9 b1 b2 z2 y3 b3 b4x b5x)
theorem settle_loop (hZ : ZOK Z) (hX : 2100 ≤ X + C0 ∧ 5306448 ≤ Y + S0) : ∀ (m : Nat) {K : KT} {P : PT} {I S : IT} {N g : Nat} {lv mv : Nat → Nat} {cs ns : Nat} (t : Int), CB K P I n N g lq lv mv → ER I S n N g lv mv q → Z (-1) S → (∀ j, j < n → I (tX j) 14 + 5 * mM S n ≤ 8190) → mM S n ≤ m → (0 ≤ t ∧ t + m ≤ 999) → (cs + C0 = pC g n lv mv ∧ ns + S0 = pS g n lv mv) → EndT Q Z K P J I S n g lq lv mv q cs ns → VE m_Engine_settle false ({ frames := 11, cells := X, slots := Y, locals := 500 } : Room) Q K P J I cs ns 15 [(0, vR (some 1064)), (2, vR (lfO I n)), (3, vI t)] [] := by
  intro m
  induction m with
  | zero =>
    intro K P I S N g lv mv cs ns t hB hE z hc hm ht hcs hQ
    have pot := hB.pot (fun j hj => by have := hc j hj; have := (mM_rg (S := S) (n := n)).2.2; omega)
    have n60 := hB.e.2.1
    have hn : mNext S = -1 := Classical.byContradiction (fun hx => by
      unfold mNext at hx
      rcases fs_fst (g := mFreed S) (S 100 19).toNat 0 with w | ⟨w0, w1, w2⟩
      · exact hx w
      · have := hE.cnt.1
        have f := (mM_try (i := (fs (mFreed S) 0 (S 100 19).toNat).toNat) (open4 hE) (by omega) (by rw [show (((fs (mFreed S) 0 (S 100 19).toNat).toNat : Nat) : Int) = fs (mFreed S) 0 (S 100 19).toNat by omega]; have := w2.1; omega) hE.cnt.2.1).2 (by rw [show (((fs (mFreed S) 0 (S 100 19).toNat).toNat : Nat) : Int) = fs (mFreed S) 0 (S 100 19).toNat by omega]; exact w2)
        have := (mM_rg (S := mTry1 (mGo S ((fs (mFreed S) 0 (S 100 19).toNat).toNat : Nat)) ((fs (mFreed S) 0 (S 100 19).toNat).toNat : Nat)) (n := n)).2.2
        omega)
    have hl : lfO I n = none := if_pos (by rw [next_eq hE]; exact hn)
    have hW : SetW S := ⟨hE.mb, fun j j0 j1 h1 => by
      rw [hE.cnt.1] at j1
      have := (hE.ph j.toNat (by omega)).2.1
      rw [show ((j.toNat : Nat) : Int) = j by omega] at this
      have := this h1
      omega⟩
    have fin : Q (.inl none) K P J I cs ns := hQ 0 K P I 0 0 N g lv mv hB hE ⟨hW, hn⟩ z ⟨by omega, by omega⟩ (fun j _ => Int.le_refl _) (fun o _ => ⟨rfl, rfl, rfl⟩)
    rw [hl]
    refine VE.iload_n (pc' := 16) d_Engine_settle_15 rfl rfl ?_
    refine VE.sipush (pc' := 19) d_Engine_settle_16 rfl (by decide) ?_
    refine VE.icmp_ge (tgt := 52) (pc' := 22) d_Engine_settle_19 rfl rfl (fun c19 => ?_) (fun c19 => ?_)
    case refine_1 => exact absurd c19 (by omega)
    refine VE.aload_nN (pc' := 23) d_Engine_settle_22 rfl rfl ?_
    refine VE.ifnullN (pc' := 52) d_Engine_settle_23 rfl ?_
    exact VE.vret d_Engine_settle_52 rfl (by show cs ≤ X; omega) (by show ns ≤ Y; omega) (fin)
  | succ m ih =>
    intro K P I S N g lv mv cs ns t hB hE z hc hm ht hcs hQ
    have M0 := (mM_rg (S := S) (n := n)).2.2
    have pot := hB.pot (fun j hj => by have := hc j hj; omega)
    have n60 := hB.e.2.1
    have hW : SetW S := ⟨hE.mb, fun j j0 j1 h1 => by
      rw [hE.cnt.1] at j1
      have := (hE.ph j.toNat (by omega)).2.1
      rw [show ((j.toNat : Nat) : Int) = j by omega] at this
      have := this h1
      omega⟩
    by_cases hn : mNext S = -1
    · have hl : lfO I n = none := if_pos (by rw [next_eq hE]; exact hn)
      have fin : Q (.inl none) K P J I cs ns := hQ 0 K P I 0 0 N g lv mv hB hE ⟨hW, hn⟩ z ⟨by omega, by omega⟩ (fun j _ => Int.le_refl _) (fun o _ => ⟨rfl, rfl, rfl⟩)
      rw [hl]
      refine VE.iload_n (pc' := 16) d_Engine_settle_15 rfl rfl ?_
      refine VE.sipush (pc' := 19) d_Engine_settle_16 rfl (by decide) ?_
      refine VE.icmp_ge (tgt := 52) (pc' := 22) d_Engine_settle_19 rfl rfl (fun c19 => ?_) (fun c19 => ?_)
      case refine_1 => exact absurd c19 (by omega)
      refine VE.aload_nN (pc' := 23) d_Engine_settle_22 rfl rfl ?_
      refine VE.ifnullN (pc' := 52) d_Engine_settle_23 rfl ?_
      exact VE.vret d_Engine_settle_52 rfl (by show cs ≤ X; omega) (by show ns ≤ Y; omega) (fin)
    · have hx := hn
      have hnx : 0 ≤ mNext S ∧ mNext S < n ∧ mFreed S (mNext S) := by
        unfold mNext at hx ⊢
        rcases fs_fst (g := mFreed S) (S 100 19).toNat 0 with w | ⟨w0, w1, w2⟩
        · exact absurd w hx
        · have := hE.cnt.1
          exact ⟨w0, by omega, w2⟩
      obtain ⟨x, ex⟩ : ∃ x : Nat, mNext S = x := ⟨(mNext S).toNat, by omega⟩
      rw [ex] at hnx
      obtain ⟨-, xn, fx⟩ := hnx
      have xn : x < n := by omega
      have hl : lfO I n = some (tX x) := (if_neg (by rw [next_eq hE]; exact hn)).trans (by rw [next_eq hE, ex]; rfl)
      have px := hE.ph x xn
      obtain ⟨pd, yr⟩ := hE.pd x xn fx.1
      have bx := px.2.1 fx.1
      have h40 : S 233 x ≤ 2040 := by
        have a := (hE.rd.1 x xn).2
        have b := hE.rd.2.2
        have n2 : 2 ≤ n := Classical.byContradiction (fun w => by
          have e : S 225 x = x := by omega
          have := fx.2
          rw [e] at this
          have := fx.1
          omega)
        omega
      obtain ⟨mt, mt2⟩ := mM_try (open4 hE) xn (by have := fx.1; omega) hE.cnt.2.1
      have mt3 := mt2 fx
      have M1 := (mM_rg (S := mTry1 (mGo S x) x) (n := n)).2.2
      have body : VE m_Engine_settle false ({ frames := 11, cells := X, slots := Y, locals := 500 } : Room) Q K P J I cs ns 26 [(0, vR (some 1064)), (2, vR (some (tX x))), (3, vI t)] [] := by
        refine settle_body hB hE xn (by have := fx.1; omega) pd h40 ⟨Or.inr yr, Int.le_refl _, hE.rd.2.2⟩ (fun j hj => by have := hc j hj; omega) hZ (hZ.1 _ _ n N g lv mv q x hE xn fx z) ⟨by omega, by omega⟩ hX hcs (fun K' P' I' N' g' lv' mv' k w c1 c2 c3 c4 c5 c6 c7 => ?_)
        refine ih (t + 1) c1 c2 c3 (fun j hj => ?_) (by omega) ⟨by omega, by omega⟩ ⟨by omega, by omega⟩ ?_
        · have := c6 j hj
          have := hc j hj
          split at * <;> omega
        · intro m' K2 P2 I2 c z2 N2 g2 lv2 mv2 d1 d2 d3 d4 d5 d6 d7
          have es : mSettle (m' + 1) S = mSettle m' (mTry1 (mGo S x) x) := by rw [mSettle_go hn, ex]; rfl
          have := hQ (m' + 1) K2 P2 I2 (k + c) (w + z2) N2 g2 lv2 mv2 d1 (by rw [es]; exact d2) ⟨hW, fun _ => by rw [ex]; exact ⟨c4, d3⟩⟩ (by rw [es]; exact d4) ⟨by omega, by omega⟩ (fun j hj => ?_) (fun o ho => ⟨(d7 o ho).1.trans (c7 o ho).1, (d7 o ho).2.1.trans (c7 o ho).2.1, (d7 o ho).2.2.trans (c7 o ho).2.2⟩)
          · rw [← Nat.add_assoc, ← Nat.add_assoc] at this
            exact this
          · rw [es]
            have a := d6 j hj
            have b := c6 j hj
            split at b <;> omega
      rw [hl]
      refine VE.iload_n (pc' := 16) d_Engine_settle_15 rfl rfl ?_
      refine VE.sipush (pc' := 19) d_Engine_settle_16 rfl (by decide) ?_
      refine VE.icmp_ge (tgt := 52) (pc' := 22) d_Engine_settle_19 rfl rfl (fun c19 => ?_) (fun c19 => ?_)
      case refine_1 => exact absurd c19 (by omega)
      refine VE.aload_n (pc' := 23) d_Engine_settle_22 rfl rfl ?_
      refine VE.ifnull (pc' := 26) d_Engine_settle_23 rfl ?_
      refine VE.pick [0, 2, 3] ?_
      exact body
end
