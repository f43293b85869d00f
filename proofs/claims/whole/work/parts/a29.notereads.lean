section
variable {K : KT} {P : PT} {J I : IT}
theorem orb_b : ∀ a : Fin 64, ∀ t t' : Fin 6, (0 ≤ orB (a.val : Int) (t.val : Int) ∧ orB (a.val : Int) (t.val : Int) < 64) ∧ ((orB (a.val : Int) (t.val : Int) / 2 ^ (t'.val : Int).toNat % 2 = 1) ↔ ((a.val : Int) / 2 ^ (t'.val : Int).toNat % 2 = 1 ∨ t'.val = t.val)) := by decide +kernel
theorem orb_i {a t t' : Int} (ha : 0 ≤ a ∧ a < 64) (ht : 0 ≤ t ∧ t < 6) (ht' : 0 ≤ t' ∧ t' < 6) : (0 ≤ orB a t ∧ orB a t < 64) ∧ ((orB a t / 2 ^ t'.toNat % 2 = 1) ↔ (a / 2 ^ t'.toNat % 2 = 1 ∨ t' = t)) := by
  have h := orb_b ⟨a.toNat, by omega⟩ ⟨t.toNat, by omega⟩ ⟨t'.toNat, by omega⟩
  simp only at h
  rw [Int.toNat_of_nonneg ha.1, Int.toNat_of_nonneg ht.1, Int.toNat_of_nonneg ht'.1] at h
  refine ⟨h.1, h.2.trans ⟨fun z => z.elim Or.inl (fun y => Or.inr (by omega)), fun z => z.elim Or.inl (fun y => Or.inr (by omega))⟩⟩
def whOf (I : IT) (i : Nat) (t : Int) : Prop := txWh I (tX i) t = 1
theorem whOf_iff {i : Nat} {t : Int} : whOf I i t ↔ I (tX i) 13 / 2 ^ t.toNat % 2 = 1 := by
  unfold whOf txWh
  by_cases h : I (tX i) 13 / 2 ^ t.toNat % 2 = 1
  · rw [if_pos h]; exact ⟨fun _ => h, fun _ => rfl⟩
  · rw [if_neg h]; exact ⟨fun z => (by cases z), fun z => absurd z h⟩
/-- what reads (whole tables W, keys Y; no more than c keys new) leave of a transaction's numbers -/
def RdD (I I' : IT) (i l l' m : Nat) (W : Int → Prop) (Y : Int → Int → Prop) (c : Int) : Prop := (∀ k, k ≠ 13 → k ≠ 14 → I' (tX i) k = I (tX i) k) ∧ (I (tX i) 14 ≤ I' (tX i) 14 ∧ I' (tX i) 14 ≤ I (tX i) 14 + c) ∧ (I' (tX i + 13) = I (tX i + 13) ∧ I' (tX i + 33) = I (tX i + 33) ∧ I' (tX i + 80 + m) = I (tX i + 80 + m)) ∧ (∀ t, 0 ≤ t → t < 6 → (whOf I' i t ↔ whOf I i t ∨ W t)) ∧ ∀ t y, rdOf I' i l' t y ↔ rdOf I i l t y ∨ Y t y
theorem RdD.rf {i l m : Nat} : RdD I I i l l m (fun _ => False) (fun _ _ => False) 0 := ⟨fun _ _ _ => rfl, ⟨Int.le_refl _, by omega⟩, ⟨rfl, rfl, rfl⟩, fun _ _ _ => ⟨Or.inl, fun z => z.elim id False.elim⟩, fun _ _ => ⟨Or.inl, fun z => z.elim id False.elim⟩⟩
theorem RdD.tr {I1 I2 : IT} {i l l1 l2 m : Nat} {W W' : Int → Prop} {Y Y' : Int → Int → Prop} {c c' : Int} (h : RdD I I1 i l l1 m W Y c) (h' : RdD I1 I2 i l1 l2 m W' Y' c') : RdD I I2 i l l2 m (fun t => W t ∨ W' t) (fun t y => Y t y ∨ Y' t y) (c + c') := by
  obtain ⟨a1, a2, ⟨a3, a4, a5⟩, a6, a7⟩ := h
  obtain ⟨b1, b2, ⟨b3, b4, b5⟩, b6, b7⟩ := h'
  refine ⟨fun k k1 k2 => (b1 k k1 k2).trans (a1 k k1 k2), ⟨by omega, by omega⟩, ⟨b3.trans a3, b4.trans a4, b5.trans a5⟩, fun t t0 t1 => ?_, fun t y => ?_⟩
  · rw [b6 t t0 t1, a6 t t0 t1, or_assoc]
  · rw [b7, a7, or_assoc]
theorem RdD.iff {I1 : IT} {i l l1 m : Nat} {W W' : Int → Prop} {Y Y' : Int → Int → Prop} {c c' : Int} (h : RdD I I1 i l l1 m W Y c) (hW : ∀ t, 0 ≤ t → t < 6 → (W t ↔ W' t)) (hY : ∀ t y, Y t y ↔ Y' t y) (hc : c ≤ c') : RdD I I1 i l l1 m W' Y' c' := by
  obtain ⟨a1, a2, a3, a6, a7⟩ := h
  exact ⟨a1, ⟨a2.1, by omega⟩, a3, fun t t0 t1 => by rw [a6 t t0 t1, hW t t0 t1], fun t y => by rw [a7, hY]⟩
theorem RdD.key {I1 : IT} {i l l1 m : Nat} {t y : Int} (h : RkS I I1 i m) (h2 : ∀ t' y', rdOf I1 i l1 t' y' ↔ rdOf I i l t' y' ∨ (t' = t ∧ y' = y)) : RdD I I1 i l l1 m (fun _ => False) (fun t' y' => t' = t ∧ y' = y) 1 := by
  obtain ⟨a1, a2, a3, a4, a5⟩ := h
  refine ⟨fun k _ k2 => a1 k k2, ⟨a2.2, a2.1⟩, ⟨a3, a4, a5⟩, fun t' _ _ => ?_, h2⟩
  rw [whOf_iff, whOf_iff, a1 13 (by decide)]
  exact ⟨Or.inl, fun z => z.elim id False.elim⟩
theorem wh_ex {i l m : Nat} {t : Int} (hV : TxV K P i l m) (hN : TxN I i l m) (ht : 0 ≤ t ∧ t < 6) : ∃ I' : IT, TxN I' i l m ∧ Fr (nTx i) K P I K P I' ∧ RdD I I' i l l m (fun t' => t' = t) (fun _ _ => False) 0 ∧ Sp m_Transaction_readWhole false (rmv 0 0) (ex K P J I' (.inl none)) K P J I [vR (some (tX i)), vI t] := by
  have sp := sp_Transaction_readWhole (J := J) hV.1 ht hN.2.2.2.1
  have hw := hN.2.2.2.1
  have e13 : up2 I (tX i) 13 (orB (I (tX i) 13) t) (tX i) 13 = orB (I (tX i) 13) t := up2_eq _ _ _ _
  have ek : ∀ k, k ≠ 13 → up2 I (tX i) 13 (orB (I (tX i) 13) t) (tX i) k = I (tX i) k := fun k hk => up2_k _ _ _ _ hk
  have eo : ∀ o, o ≠ tX i → up2 I (tX i) 13 (orB (I (tX i) 13) t) o = I o := fun o ho => funext (fun k => up2_o _ _ _ _ ho)
  obtain ⟨h1, h2, h3, h4, h5⟩ := hN
  refine ⟨_, ⟨by rw [ek 14 (by decide)]; exact h1, by rw [ek 17 (by decide)]; exact h2, by rw [ek 14 (by decide), eo _ (by omega)]; exact h3, by rw [e13]; exact (orb_i hw ht ht).1, by rw [ek 17 (by decide), eo _ (by omega)]; exact h5⟩, fun o ho => ⟨rfl, rfl, eo o (fun z => ho (by unfold nTx; omega))⟩, ⟨fun k k1 _ => ek k k1, by rw [ek 14 (by decide)]; exact ⟨Int.le_refl _, by omega⟩, ⟨eo _ (by omega), eo _ (by omega), eo _ (by omega)⟩, fun t' t0 t1 => ?_, fun t' y => ?_⟩, sp⟩
  · rw [whOf_iff, whOf_iff, e13]
    exact (orb_i hw ht ⟨t0, t1⟩).2
  · rw [rdOf_iff, rdOf_iff, ek 14 (by decide), eo _ (by omega), eo _ (by omega)]
    exact ⟨Or.inl, fun z => z.elim id False.elim⟩
/-- an operator above a scan leaves what is read to those above it -/
def quSk (I : IT) (q : Nat) (x : Int) : Prop := quFlt I q x ∧ ¬ quAsk I q x
noncomputable def quStop (I : IT) (q : Nat) (x : Int) (n : Nat) : Int := fs (fun z => ¬ quSk I q z) x n
/-- a scan reads a key -/
def quK (I : IT) (q : Nat) (s : Int) : Prop := quStop I q (s + 1) (I q 0 - (s + 1)).toNat ≠ -1 ∧ quAsk I q (quStop I q (s + 1) (I q 0 - (s + 1)).toNat)
theorem quAsk_flt {q : Nat} {x : Int} (h : quAsk I q x) : quFlt I q x := Or.inl h.1
theorem noteOf_ex {q i l m : Nat} {s t : Int} (hQ : QuW K P q) (hq : 0 ≤ I q 0 ∧ I q 0 ≤ 12) (hs : 0 ≤ s ∧ s < I q 0) (hV : TxV K P i l m) (hN : TxN I i l m) (ht : I (q + 4) (s * 4 + 0) = t) (ht6 : 0 ≤ t ∧ t < 6) (hb : I (tX i) 14 < 100000) : ∃ (l' c n : Nat) (K' : KT) (P' : PT) (I' : IT), (TxV K' P' i l' m ∧ TxN I' i l' m) ∧ Fr (nTx i) K P I K' P' I' ∧ (c + 2 * l = 2 * l' ∧ n + ps l = ps l') ∧ RdD I I' i l l' m (fun t' => t' = t ∧ ¬ quK I q s) (fun t' y => t' = t ∧ quK I q s ∧ y = I (q + 4) (quStop I q (s + 1) (I q 0 - (s + 1)).toNat * 4 + 2)) 1 ∧ Sp m_Query_noteReadsOf false ({ frames := 4, cells := c, slots := n, locals := 150 } : Room) (ex K' P' J I' (.inl none)) K P J I [vR (some q), vI s, vR (some (tX i))] := by
  have spec := fs_spec (fun z => ¬ quSk I q z) (I q 0 - (s + 1)).toNat (s + 1)
  change (quStop I q (s + 1) (I q 0 - (s + 1)).toNat = -1 ∧ _) ∨ (s + 1 ≤ quStop I q (s + 1) (I q 0 - (s + 1)).toNat ∧ quStop I q (s + 1) (I q 0 - (s + 1)).toNat < _ ∧ ¬ quSk I q (quStop I q (s + 1) (I q 0 - (s + 1)).toNat) ∧ ∀ j, _ → j < quStop I q (s + 1) (I q 0 - (s + 1)).toNat → _) at spec
  unfold quK
  generalize hz : quStop I q (s + 1) (I q 0 - (s + 1)).toNat = z at *
  by_cases hk : z ≠ -1 ∧ quAsk I q z
  · obtain ⟨l', c, n, K', P', I', f1, f2, f3, f4, f5, -, sp⟩ := readKey_ex (J := J) (t := t) (y := I (q + 4) (z * 4 + 2)) hV hN ht6 hb
    refine ⟨l', c, n, K', P', I', f1, f2, f3, (RdD.key f4 f5).iff (fun t' _ _ => ⟨False.elim, fun y => absurd hk y.2⟩) (fun t' y => ⟨fun y => ⟨y.1, hk, y.2⟩, fun y => ⟨y.1, y.2.2⟩⟩) (Int.le_refl _), ?_⟩
    obtain ⟨s1, s2, s3, s4⟩ := spec.elim (fun y => absurd y.1 hk.1) id
    refine Sp.ofV (by decide) (Or.inr rfl) rfl ?_
    have at' : ∀ j : Int, s + 1 ≤ j → j ≤ z → quFlt I q j := fun j j0 j1 => by
      by_cases e : j = z
      · rw [e]; exact quAsk_flt hk.2
      · exact (Classical.not_not.mp (s4 j j0 (by omega))).1
    have as' : ∀ j : Int, s + 1 ≤ j → j < z → ¬ quAsk I q j := fun j j0 j1 => (Classical.not_not.mp (s4 j j0 j1)).2
    have loop : ∀ (w : Nat) (x : Int), x + w = z → s + 1 ≤ x → VW m_Query_noteReadsOf false ({ frames := 4, cells := c, slots := n, locals := 150 } : Room) (ex K' P' J I' (.inl none)) K P J I 0 0 12 [(0, vR (some q)), (1, vI s), (2, vR (some (tX i))), (3, vI t), (4, vI x)] [] := by
      intro w
      induction w with
      | zero =>
        intro x hx hx1
        have ex0 : x = z := by omega
        subst ex0
        have b1 : bI (quFlt I q x) = 1 := bI1 (at' x hx1 (Int.le_refl _))
        have b2 : bI (quAsk I q x) = 1 := bI1 hk.2
        refine VW.iload (pc' := 14) d_Query_noteReadsOf_12 rfl rfl ?_
        refine VW.aload_n (pc' := 15) d_Query_noteReadsOf_14 rfl rfl ?_
        refine VW.gI (ci := 4) (T := T4) (N := 13) (k := 0) (k' := 0) (pc' := 18) d_Query_noteReadsOf_15 rfl lk_Query_33 in4 rfl rfl rfl rfl (by first | exact hQ.k | exact hV.1.1) (rfl) ?_
        refine VW.icmp_ge (tgt := 58) (pc' := 21) d_Query_noteReadsOf_18 rfl rfl (fun c18 => ?_) (fun c18 => ?_)
        case refine_1 => exact absurd c18 (by omega)
        refine VW.aload_n (pc' := 22) d_Query_noteReadsOf_21 rfl rfl ?_
        refine VW.iload (pc' := 24) d_Query_noteReadsOf_22 rfl rfl ?_
        refine VW.cV (ci := 4) (T := T4) (N := 13) (pc' := 27) d_Query_noteReadsOf_24 rfl mv_Query_isFilter lk_Query_64 rfl (by first | exact hQ.k | exact hV.1.1) rfl rfl rfl (Nat.zero_le _) (Nat.zero_le _) (sp_Query_isFilter hQ (by omega)) rfl rfl ?_
        refine VW.if_eq (tgt := 58) (pc' := 30) d_Query_noteReadsOf_27 rfl rfl (fun c27 => ?_) (fun c27 => ?_)
        case refine_1 => exact absurd c27 (by omega)
        refine VW.aload_n (pc' := 31) d_Query_noteReadsOf_30 rfl rfl ?_
        refine VW.iload (pc' := 33) d_Query_noteReadsOf_31 rfl rfl ?_
        refine VW.cV (ci := 4) (T := T4) (N := 13) (pc' := 36) d_Query_noteReadsOf_33 rfl mv_Query_asksForKey lk_Query_68 rfl (by first | exact hQ.k | exact hV.1.1) rfl rfl rfl (Nat.zero_le _) (Nat.zero_le _) (sp_Query_asksForKey hQ (by omega)) rfl rfl ?_
        refine VW.if_eq (tgt := 52) (pc' := 39) d_Query_noteReadsOf_36 rfl rfl (fun c36 => ?_) (fun c36 => ?_)
        case refine_1 => exact absurd c36 (by omega)
        refine VW.aload_n (pc' := 40) d_Query_noteReadsOf_39 rfl rfl ?_
        refine VW.iload_n (pc' := 41) d_Query_noteReadsOf_40 rfl rfl ?_
        refine VW.aload_n (pc' := 42) d_Query_noteReadsOf_41 rfl rfl ?_
        refine VW.iload (pc' := 44) d_Query_noteReadsOf_42 rfl rfl ?_
        refine VW.iconst (pc' := 45) d_Query_noteReadsOf_44 rfl (by decide) ?_
        refine VW.cV (ci := 4) (T := T4) (N := 13) (pc' := 48) d_Query_noteReadsOf_45 rfl mv_Query_parameter lk_Query_56 rfl (by first | exact hQ.k | exact hV.1.1) rfl rfl rfl (Nat.zero_le _) (Nat.zero_le _) (sp_Query_parameter hQ (by omega) (by decide)) rfl rfl ?_
        refine VW.cV (ci := 8) (T := T8) (N := 19) (pc' := 51) d_Query_noteReadsOf_48 rfl mv_Transaction_readKey lk_Query_71 rfl (by first | exact hQ.k | exact hV.1.1) rfl rfl rfl (by exact Nat.le_of_eq (Nat.zero_add _)) (by exact Nat.le_of_eq (Nat.zero_add _)) (sp) rfl rfl ?_
        exact VW.vret d_Query_noteReadsOf_51 rfl (by exact Nat.le_of_eq (Nat.zero_add _)) (by exact Nat.le_of_eq (Nat.zero_add _)) ex_rf
      | succ w ih =>
        intro x hx hx1
        have b1 : bI (quFlt I q x) = 1 := bI1 (at' x hx1 (by omega))
        have b2 : bI (quAsk I q x) = 0 := bI0 (as' x hx1 (by omega))
        have n9 := ih (x + 1) (by omega) (by omega)
        clear ih
        refine VW.iload (pc' := 14) d_Query_noteReadsOf_12 rfl rfl ?_
        refine VW.aload_n (pc' := 15) d_Query_noteReadsOf_14 rfl rfl ?_
        refine VW.gI (ci := 4) (T := T4) (N := 13) (k := 0) (k' := 0) (pc' := 18) d_Query_noteReadsOf_15 rfl lk_Query_33 in4 rfl rfl rfl rfl (by first | exact hQ.k | exact hV.1.1) (rfl) ?_
        refine VW.icmp_ge (tgt := 58) (pc' := 21) d_Query_noteReadsOf_18 rfl rfl (fun c18 => ?_) (fun c18 => ?_)
        case refine_1 => exact absurd c18 (by omega)
        refine VW.aload_n (pc' := 22) d_Query_noteReadsOf_21 rfl rfl ?_
        refine VW.iload (pc' := 24) d_Query_noteReadsOf_22 rfl rfl ?_
        refine VW.cV (ci := 4) (T := T4) (N := 13) (pc' := 27) d_Query_noteReadsOf_24 rfl mv_Query_isFilter lk_Query_64 rfl (by first | exact hQ.k | exact hV.1.1) rfl rfl rfl (Nat.zero_le _) (Nat.zero_le _) (sp_Query_isFilter hQ (by omega)) rfl rfl ?_
        refine VW.if_eq (tgt := 58) (pc' := 30) d_Query_noteReadsOf_27 rfl rfl (fun c27 => ?_) (fun c27 => ?_)
        case refine_1 => exact absurd c27 (by omega)
        refine VW.aload_n (pc' := 31) d_Query_noteReadsOf_30 rfl rfl ?_
        refine VW.iload (pc' := 33) d_Query_noteReadsOf_31 rfl rfl ?_
        refine VW.cV (ci := 4) (T := T4) (N := 13) (pc' := 36) d_Query_noteReadsOf_33 rfl mv_Query_asksForKey lk_Query_68 rfl (by first | exact hQ.k | exact hV.1.1) rfl rfl rfl (Nat.zero_le _) (Nat.zero_le _) (sp_Query_asksForKey hQ (by omega)) rfl rfl ?_
        refine VW.if_eq (tgt := 52) (pc' := 39) d_Query_noteReadsOf_36 rfl rfl (fun c36 => ?_) (fun c36 => ?_)
        case refine_2 => exact absurd c36 (by omega)
        refine VW.iinc (pc' := 55) d_Query_noteReadsOf_52 rfl rfl rfl (by omega) ?_
        refine VW.goto (pc' := 12) d_Query_noteReadsOf_55 rfl ?_
        refine VW.pick [0, 1, 2, 3, 4] ?_
        exact n9
    have l9 := loop (z - (s + 1)).toNat (s + 1) (by omega) (Int.le_refl _)
    clear loop
    refine VW.aload_n (pc' := 1) d_Query_noteReadsOf_0 rfl rfl ?_
    refine VW.iload_n (pc' := 2) d_Query_noteReadsOf_1 rfl rfl ?_
    refine VW.iconst (pc' := 3) d_Query_noteReadsOf_2 rfl (by decide) ?_
    refine VW.cV (ci := 4) (T := T4) (N := 13) (pc' := 6) d_Query_noteReadsOf_3 rfl mv_Query_parameter lk_Query_56 rfl (by first | exact hQ.k | exact hV.1.1) rfl rfl rfl (Nat.zero_le _) (Nat.zero_le _) (sp_Query_parameter hQ (by omega) (by decide)) rfl rfl ?_
    refine VW.istore_n (pc' := 7) d_Query_noteReadsOf_6 rfl rfl ?_
    refine VW.iload_n (pc' := 8) d_Query_noteReadsOf_7 rfl rfl ?_
    refine VW.iconst (pc' := 9) d_Query_noteReadsOf_8 rfl (by decide) ?_
    refine VW.iadd (pc' := 10) d_Query_noteReadsOf_9 rfl (by omega) ?_
    refine VW.istore (pc' := 12) d_Query_noteReadsOf_10 rfl rfl ?_
    refine VW.pick [0, 1, 2, 3, 4] ?_
    rw [ht]
    exact l9
  · obtain ⟨I', f1, f2, f3, sp⟩ := wh_ex (J := J) (t := t) hV hN ht6
    refine ⟨l, 0, 0, K, P, I', ⟨hV, f1⟩, f2, ⟨by omega, by omega⟩, f3.iff (fun t' _ _ => ⟨fun y => ⟨y, hk⟩, fun y => y.1⟩) (fun t' y => ⟨False.elim, fun y => absurd y.2.1 hk⟩) (by omega), ?_⟩
    refine Sp.ofV (by decide) (Or.inr rfl) rfl ?_
    have loop : ∀ (w : Nat) (x : Int), x + w = I q 0 → s + 1 ≤ x → (∀ j, s + 1 ≤ j → j < x → quSk I q j) → VW m_Query_noteReadsOf false ({ frames := 4, cells := 0, slots := 0, locals := 150 } : Room) (ex K P J I' (.inl none)) K P J I 0 0 12 [(0, vR (some q)), (1, vI s), (2, vR (some (tX i))), (3, vI t), (4, vI x)] [] := by
      intro w
      induction w with
      | zero =>
        intro x hx hx1 hj
        have ex0 : x = I q 0 := by omega
        refine VW.iload (pc' := 14) d_Query_noteReadsOf_12 rfl rfl ?_
        refine VW.aload_n (pc' := 15) d_Query_noteReadsOf_14 rfl rfl ?_
        refine VW.gI (ci := 4) (T := T4) (N := 13) (k := 0) (k' := 0) (pc' := 18) d_Query_noteReadsOf_15 rfl lk_Query_33 in4 rfl rfl rfl rfl (by first | exact hQ.k | exact hV.1.1) (rfl) ?_
        refine VW.icmp_ge (tgt := 58) (pc' := 21) d_Query_noteReadsOf_18 rfl rfl (fun c18 => ?_) (fun c18 => ?_)
        case refine_2 => exact absurd c18 (by omega)
        refine VW.aload_n (pc' := 59) d_Query_noteReadsOf_58 rfl rfl ?_
        refine VW.iload_n (pc' := 60) d_Query_noteReadsOf_59 rfl rfl ?_
        refine VW.cV (ci := 8) (T := T8) (N := 19) (pc' := 63) d_Query_noteReadsOf_60 rfl mv_Transaction_readWhole lk_Query_77 rfl (by first | exact hQ.k | exact hV.1.1) rfl rfl rfl (Nat.le_refl _) (Nat.le_refl _) (sp) rfl rfl ?_
        exact VW.vret d_Query_noteReadsOf_63 rfl (Nat.zero_le _) (Nat.zero_le _) ex_rf
      | succ w ih =>
        intro x hx hx1 hj
        have nsk : ¬ quSk I q x → x = z := fun h => by
          rcases spec with ⟨_, y⟩ | ⟨y1, y2, y3, y4⟩
          · exact absurd h (y x hx1 (by omega))
          · refine Classical.byContradiction (fun ne => ?_)
            by_cases lt : x < z
            · exact y4 x hx1 lt h
            · exact y3 (hj z y1 (by omega))
        by_cases hf : quFlt I q x
        · by_cases ha : quAsk I q x
          · have e := nsk (fun y => y.2 ha)
            exact absurd ⟨by omega, by rw [← e]; exact ha⟩ hk
          · have b1 : bI (quFlt I q x) = 1 := bI1 hf
            have b2 : bI (quAsk I q x) = 0 := bI0 ha
            have n9 := ih (x + 1) (by omega) (by omega) (fun j j0 j1 => by
              by_cases e : j = x
              · rw [e]; exact ⟨hf, ha⟩
              · exact hj j j0 (by omega))
            clear ih
            refine VW.iload (pc' := 14) d_Query_noteReadsOf_12 rfl rfl ?_
            refine VW.aload_n (pc' := 15) d_Query_noteReadsOf_14 rfl rfl ?_
            refine VW.gI (ci := 4) (T := T4) (N := 13) (k := 0) (k' := 0) (pc' := 18) d_Query_noteReadsOf_15 rfl lk_Query_33 in4 rfl rfl rfl rfl (by first | exact hQ.k | exact hV.1.1) (rfl) ?_
            refine VW.icmp_ge (tgt := 58) (pc' := 21) d_Query_noteReadsOf_18 rfl rfl (fun c18 => ?_) (fun c18 => ?_)
            case refine_1 => exact absurd c18 (by omega)
            refine VW.aload_n (pc' := 22) d_Query_noteReadsOf_21 rfl rfl ?_
            refine VW.iload (pc' := 24) d_Query_noteReadsOf_22 rfl rfl ?_
            refine VW.cV (ci := 4) (T := T4) (N := 13) (pc' := 27) d_Query_noteReadsOf_24 rfl mv_Query_isFilter lk_Query_64 rfl (by first | exact hQ.k | exact hV.1.1) rfl rfl rfl (Nat.le_refl _) (Nat.le_refl _) (sp_Query_isFilter hQ (by omega)) rfl rfl ?_
            refine VW.if_eq (tgt := 58) (pc' := 30) d_Query_noteReadsOf_27 rfl rfl (fun c27 => ?_) (fun c27 => ?_)
            case refine_1 => exact absurd c27 (by omega)
            refine VW.aload_n (pc' := 31) d_Query_noteReadsOf_30 rfl rfl ?_
            refine VW.iload (pc' := 33) d_Query_noteReadsOf_31 rfl rfl ?_
            refine VW.cV (ci := 4) (T := T4) (N := 13) (pc' := 36) d_Query_noteReadsOf_33 rfl mv_Query_asksForKey lk_Query_68 rfl (by first | exact hQ.k | exact hV.1.1) rfl rfl rfl (Nat.le_refl _) (Nat.le_refl _) (sp_Query_asksForKey hQ (by omega)) rfl rfl ?_
            refine VW.if_eq (tgt := 52) (pc' := 39) d_Query_noteReadsOf_36 rfl rfl (fun c36 => ?_) (fun c36 => ?_)
            case refine_2 => exact absurd c36 (by omega)
            refine VW.iinc (pc' := 55) d_Query_noteReadsOf_52 rfl rfl rfl (by omega) ?_
            refine VW.goto (pc' := 12) d_Query_noteReadsOf_55 rfl ?_
            refine VW.pick [0, 1, 2, 3, 4] ?_
            exact n9
        · have b1 : bI (quFlt I q x) = 0 := bI0 hf
          clear ih
          refine VW.iload (pc' := 14) d_Query_noteReadsOf_12 rfl rfl ?_
          refine VW.aload_n (pc' := 15) d_Query_noteReadsOf_14 rfl rfl ?_
          refine VW.gI (ci := 4) (T := T4) (N := 13) (k := 0) (k' := 0) (pc' := 18) d_Query_noteReadsOf_15 rfl lk_Query_33 in4 rfl rfl rfl rfl (by first | exact hQ.k | exact hV.1.1) (rfl) ?_
          refine VW.icmp_ge (tgt := 58) (pc' := 21) d_Query_noteReadsOf_18 rfl rfl (fun c18 => ?_) (fun c18 => ?_)
          case refine_1 => exact absurd c18 (by omega)
          refine VW.aload_n (pc' := 22) d_Query_noteReadsOf_21 rfl rfl ?_
          refine VW.iload (pc' := 24) d_Query_noteReadsOf_22 rfl rfl ?_
          refine VW.cV (ci := 4) (T := T4) (N := 13) (pc' := 27) d_Query_noteReadsOf_24 rfl mv_Query_isFilter lk_Query_64 rfl (by first | exact hQ.k | exact hV.1.1) rfl rfl rfl (Nat.le_refl _) (Nat.le_refl _) (sp_Query_isFilter hQ (by omega)) rfl rfl ?_
          refine VW.if_eq (tgt := 58) (pc' := 30) d_Query_noteReadsOf_27 rfl rfl (fun c27 => ?_) (fun c27 => ?_)
          case refine_2 => exact absurd c27 (by omega)
          refine VW.aload_n (pc' := 59) d_Query_noteReadsOf_58 rfl rfl ?_
          refine VW.iload_n (pc' := 60) d_Query_noteReadsOf_59 rfl rfl ?_
          refine VW.cV (ci := 8) (T := T8) (N := 19) (pc' := 63) d_Query_noteReadsOf_60 rfl mv_Transaction_readWhole lk_Query_77 rfl (by first | exact hQ.k | exact hV.1.1) rfl rfl rfl (Nat.le_refl _) (Nat.le_refl _) (sp) rfl rfl ?_
          exact VW.vret d_Query_noteReadsOf_63 rfl (Nat.zero_le _) (Nat.zero_le _) ex_rf
    have l9 := loop (I q 0 - (s + 1)).toNat (s + 1) (by omega) (Int.le_refl _) (fun j j0 j1 => by omega)
    clear loop
    refine VW.aload_n (pc' := 1) d_Query_noteReadsOf_0 rfl rfl ?_
    refine VW.iload_n (pc' := 2) d_Query_noteReadsOf_1 rfl rfl ?_
    refine VW.iconst (pc' := 3) d_Query_noteReadsOf_2 rfl (by decide) ?_
    refine VW.cV (ci := 4) (T := T4) (N := 13) (pc' := 6) d_Query_noteReadsOf_3 rfl mv_Query_parameter lk_Query_56 rfl (by first | exact hQ.k | exact hV.1.1) rfl rfl rfl (Nat.le_refl _) (Nat.le_refl _) (sp_Query_parameter hQ (by omega) (by decide)) rfl rfl ?_
    refine VW.istore_n (pc' := 7) d_Query_noteReadsOf_6 rfl rfl ?_
    refine VW.iload_n (pc' := 8) d_Query_noteReadsOf_7 rfl rfl ?_
    refine VW.iconst (pc' := 9) d_Query_noteReadsOf_8 rfl (by decide) ?_
    refine VW.iadd (pc' := 10) d_Query_noteReadsOf_9 rfl (by omega) ?_
    refine VW.istore (pc' := 12) d_Query_noteReadsOf_10 rfl rfl ?_
    refine VW.pick [0, 1, 2, 3, 4] ?_
    rw [ht]
    exact l9
end
