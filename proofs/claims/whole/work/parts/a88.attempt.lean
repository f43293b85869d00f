/-! an attempt: its ends -/
section
variable {K : KT} {P : PT} {J I W : IT} {n N g lq i : Nat} {lv mv : Nat → Nat} {q : Int} {Q : PE} {cs ns : Nat}
theorem ps_cap {l m : Nat} (h : TxN I i l m) (hc : I (tX i) 14 ≤ 8191) : l ≤ 10 ∧ ps l ≤ 32768 := by
  have l10 : l ≤ 10 := Classical.byContradiction (fun z => by
    have : (2 : Int) ^ 11 ≤ 2 ^ l := by
      have := Nat.pow_le_pow_right (show 0 < 2 by decide) (show 11 ≤ l by omega)
      exact_mod_cast this
    have := h.1.2.2.2
    omega)
  have : (2 : Nat) ^ l ≤ 2 ^ 10 := Nat.pow_le_pow_right (by decide) l10
  unfold ps
  omega
theorem pf_cap {l m : Nat} (h : TxN I i l m) (hc : I (tX i) 17 ≤ 16384) : m ≤ 11 ∧ pf m ≤ 32768 := by
  have l10 : m ≤ 11 := Classical.byContradiction (fun z => by
    have : (2 : Int) ^ 12 ≤ 2 ^ m := by
      have := Nat.pow_le_pow_right (show 0 < 2 by decide) (show 12 ≤ m by omega)
      exact_mod_cast this
    have := h.2.1.2.2.2
    omega)
  have : (2 : Nat) ^ m ≤ 2 ^ 11 := Nat.pow_le_pow_right (by decide) l10
  unfold pf
  omega
/-- what is to be shown of an end that leaves the state S' -/
def EndK (Q : PE) (K : KT) (P : PT) (J I : IT) (n g lq : Nat) (lv mv : Nat → Nat) (q : Int) (cs ns : Nat) (S' : IT) : Prop := ∀ (K' : KT) (P' : PT) (I' : IT) (c z N' g' : Nat) (lv' mv' : Nat → Nat), CB K' P' I' n N' g' lq lv' mv' → ER I' S' n N' g' lv' mv' q → (c + pC g n lv mv = pC g' n lv' mv' ∧ z + pS g n lv mv = pS g' n lv' mv') → (∀ j, j < n → I' (tX j) 14 = I (tX j) 14) → Fr (nEn n) K P I K' P' I' → Q (.inl none) K' P' J I' (cs + c) (ns + z)
theorem EndK.sc {S' I' : IT} (hQ : EndK Q K P J I n g lq lv mv q cs ns S') (hB : CB K P I n N g lq lv mv) (hi : i < n) (e : ∀ o k, ¬ (o = tX i ∧ (k = 4 ∨ k = 5 ∨ k = 6)) → I' o k = I o k) (hE : ER I' S' n N g lv mv q) : Q (.inl none) K P J I' cs ns := by
  have n60 := hB.e.2.1
  have x0 : 2000 ≤ tX i ∧ tX i + 128 ≤ 10000 ∧ tX i + 128 ≤ 2000 + 128 * n := by unfold tX; omega
  exact hQ K P I' 0 0 N g lv mv (hB.sc hi e) hE ⟨by omega, by omega⟩ (fun j _ => e _ 14 (fun z => by omega)) (fun o ho => ⟨rfl, rfl, funext (fun k => e o k (fun z => ho (by unfold nEn; omega)))⟩)
theorem att_ref (hB : CB K P I n N g lq lv mv) (hE : ER I W n N g lv mv q) (hi : i < n) (h0 : W 221 i = 0) (hQ : EndK Q K P J I n g lq lv mv q cs ns (up2 W 222 i 2)) (hc : cs ≤ 40 ∧ ns ≤ 60000) : VE m_Engine_attempt false ({ frames := 9, cells := 100, slots := 850000, locals := 420 } : Room) Q K P J I cs ns 11 [(0, vR (some 1064)), (1, vR (some (tX i)))] [] := by
  obtain ⟨hT, -, -⟩ := hB.t hi
  refine VE.aload_n (pc' := 12) d_Engine_attempt_11 rfl rfl ?_
  refine VE.iconst (pc' := 13) d_Engine_attempt_12 rfl (by decide) ?_
  refine VE.pI (ci := 8) (T := T8) (N := 19) (k := 5) (k' := 5) (ty := ty8) (pc' := 16) d_Engine_attempt_13 rfl lk_Engine_103 in8 tk8 nm8 rfl rfl rfl rfl rfl rfl (by first | exact hT.k) ?_
  exact VE.vret d_Engine_attempt_16 rfl (by show _ ≤ (100 : Nat); omega) (by show _ ≤ (850000 : Nat); omega) (hQ.sc hB hi (fun o k h => if_neg (fun z => h ⟨z.1, Or.inr (Or.inl z.2)⟩)) (out_ref hE hB.lev hB.g10 hi h0))
theorem att_wait {b : Int} (hB : CB K P I n N g lq lv mv) (hE : ER I W n N g lv mv q) (hi : i < n) (h0 : W 221 i = 0) (hb : 0 ≤ b ∧ b < n) (hch : mCh W i 60 b ≠ i) (hpd : PdE I W i ∧ ∀ t y, YS W i t y → mRead W i t y) (hQ : EndK Q K P J I n g lq lv mv q cs ns (up2 (up2 (up2 W 221 i 1) 225 i b) 222 i 1)) (hc : cs ≤ 40 ∧ ns ≤ 60000) : VE m_Engine_attempt false ({ frames := 9, cells := 100, slots := 850000, locals := 420 } : Room) Q K P J I cs ns 62 [(0, vR (some 1064)), (1, vR (some (tX i))), (2, vI b)] [] := by
  obtain ⟨hT, -, -⟩ := hB.t hi
  refine VE.aload_n (pc' := 63) d_Engine_attempt_62 rfl rfl ?_
  refine VE.iconst (pc' := 64) d_Engine_attempt_63 rfl (by decide) ?_
  refine VE.pI (ci := 8) (T := T8) (N := 19) (k := 4) (k' := 4) (ty := ty8) (pc' := 67) d_Engine_attempt_64 rfl lk_Engine_118 in8 tk8 nm8 rfl rfl rfl rfl rfl rfl (by first | exact hT.k) ?_
  refine VE.aload_n (pc' := 68) d_Engine_attempt_67 rfl rfl ?_
  refine VE.iload_n (pc' := 69) d_Engine_attempt_68 rfl rfl ?_
  refine VE.pI (ci := 8) (T := T8) (N := 19) (k := 6) (k' := 6) (ty := ty8) (pc' := 72) d_Engine_attempt_69 rfl lk_Engine_121 in8 tk8 nm8 rfl rfl rfl rfl rfl rfl (by first | exact hT.k) ?_
  refine VE.aload_n (pc' := 73) d_Engine_attempt_72 rfl rfl ?_
  refine VE.iconst (pc' := 74) d_Engine_attempt_73 rfl (by decide) ?_
  refine VE.pI (ci := 8) (T := T8) (N := 19) (k := 5) (k' := 5) (ty := ty8) (pc' := 77) d_Engine_attempt_74 rfl lk_Engine_103 in8 tk8 nm8 rfl rfl rfl rfl rfl rfl (by first | exact hT.k) ?_
  refine VE.goto (pc' := 112) d_Engine_attempt_77 rfl ?_
  exact VE.vret d_Engine_attempt_112 rfl (by show _ ≤ (100 : Nat); omega) (by show _ ≤ (850000 : Nat); omega) (hQ.sc hB hi (fun o k h => (if_neg (fun z => h ⟨z.1, Or.inr (Or.inl z.2)⟩)).trans ((if_neg (fun z => h ⟨z.1, Or.inr (Or.inr z.2)⟩)).trans (if_neg (fun z => h ⟨z.1, Or.inl z.2⟩)))) (out_wait hE hB.lev hB.g10 hi h0 hb hch hpd))
theorem ER.lgR (h : ER I W n N g lv mv q) : LgR I g N := fun k k0 k1 hk => by
  have n60 := h.cnt.2.2.1
  obtain ⟨a, b, -⟩ := h.lg.2 k.toNat (by omega)
  have e : ((k.toNat : Nat) : Int) = k := by omega
  rw [e] at a b
  unfold lgF at a b
  rw [Int.add_zero] at a
  rw [a] at hk
  rw [b]
  have := (h.lr.1 k k0 k1).2 (by omega)
  omega
theorem ER.noUn (h : ER I W n N g lv mv q) (hi : opS W n i) : ((0 : Nat) : Int) = cntI (fun k => lgF I g k 0 = 2 ∧ lgF I g k 1 = (i : Int)) N := by
  rw [cntI_filter, List.filter_eq_nil_iff.mpr (fun p hp => ?_)]
  · rfl
  · have hp := List.mem_range.mp hp
    obtain ⟨a, b, -⟩ := h.lg.2 p hp
    intro z
    have z : lgF I g (p : Int) 0 = 2 ∧ lgF I g (p : Int) 1 = (i : Int) := @of_decide_eq_true _ (Classical.propDecidable _) z
    have := h.lo.1 i hi p (by omega) (by omega) (b.symm.trans z.2)
    omega
theorem att_vict {b : Int} (hB : CB K P I n N g lq lv mv) (hE : ER I W n N g lv mv q) (hi : i < n) (h0 : W 221 i = 0) (h16 : N + (unM W i N).length < 16384) (hQ : EndK Q K P J I n g lq lv mv q cs ns (up2 (mAborts W i) 222 i 4)) (hc : cs ≤ 40 ∧ ns ≤ 60000) : VE m_Engine_attempt false ({ frames := 9, cells := 100, slots := 850000, locals := 420 } : Room) Q K P J I cs ns 43 [(0, vR (some 1064)), (1, vR (some (tX i))), (2, vI b)] [] := by
  obtain ⟨hT, hN, hN17⟩ := hB.t hi
  have hC := hB.c
  have n60 := hB.e.2.1
  have x0 : 2000 ≤ tX i ∧ tX i + 128 ≤ 10000 ∧ tX i + 128 ≤ 2000 + 128 * n := by unfold tX; omega
  have eL := undL_eq (I := I) (S := W) (g := g) (i := (i : Int)) hE.lg.2 N (Nat.le_refl _)
  have lenL : (undL I g i N 0).length = (unM W i N).length := by rw [eL, List.length_map]
  obtain ⟨g', c, z, K', P', I1, ⟨v1, v2, v3, v4, v5⟩, f1, r1, x1, sp⟩ := rollback_ex (J := J) (u := 0) (by omega) hC hT hN (hE.tx i hi).1.1 hB.v hB.l hE.lgR (hE.noUn ⟨hi, by omega⟩) (by rw [lenL]; exact h16)
  have lg := lgP_le v1.2.2
  have g10 := v1.2.2
  have hT' := v4.k
  have fo : ∀ o, o ≠ tX i → o ≠ 1069 → up2 (rbI I1 i (mv i)) (tX i) 5 4 o = I1 o := fun o a b => (funext (fun k => up2_o _ _ _ _ a)).trans (by unfold rbI; exact fiI_o a b _)
  have fx : ∀ k, k ≠ 4 → k ≠ 5 → k ≠ 6 → up2 (rbI I1 i (mv i)) (tX i) 5 4 (tX i) k = I1 (tX i) k := fun k a b d => by
    rw [up2_k _ _ _ _ b]
    unfold rbI
    rw [fiI_x (by omega), if_neg d, if_neg a]
  have fin : Q (.inl none) K' P' J (up2 (rbI I1 i (mv i)) (tX i) 5 4) (cs + c) (ns + z) := by
    have hF : ∀ o, ¬ nTx i o → ¬ nLg o → o ≠ 1069 → K' o = K o ∧ P' o = P o ∧ up2 (rbI I1 i (mv i)) (tX i) 5 4 o = I o := fun o a b d => by
      obtain ⟨k1, k2, k3⟩ := f1 o b
      exact ⟨k1, k2, (fo o (fun z => a (by unfold nTx; omega)) d).trans k3⟩
    refine hQ K' P' _ c z (N + (unM W i N).length + 1) g' lv mv (hB.tr hi v3 ⟨v1, ?_⟩ ⟨v4, v5.sc fx (fun a a0 a1 => fo _ (by omega) (by omega)) (hB.lev i hi), ?_⟩ (fun _ _ => ⟨rfl, rfl⟩) (fun o a b d => hF o a b (by omega))) (out_abort hE hB.lev ⟨hB.g10, v1.2.2⟩ hi (by omega) h16 x1 v2 f1) ⟨?_, ?_⟩ (fun j hj => ?_) (fun o ho => hF o (fun z => ho (by unfold nTx at z; unfold nEn; omega)) (fun z => ho (by unfold nLg at z; unfold nEn; omega)) (fun z => ho (by unfold nEn; omega)))
    · have := v2
      unfold LgN at *
      rw [fo 1192 (by omega) (by decide), ← lenL]; exact this
    · rw [fx 17 (by decide) (by decide) (by decide), (f1 (tX i) (fun z => by unfold nLg at z; omega)).2.2]; exact hN17
    · have := pC_upd (g := g) (g' := g') (lv := lv) (mv := mv) (lv' := lv) (mv' := mv) hi (fun _ _ => ⟨rfl, rfl⟩)
      omega
    · have := pS_upd (g := g) (g' := g') (lv := lv) (mv := mv) (lv' := lv) (mv' := mv) hi (fun _ _ => ⟨rfl, rfl⟩)
      omega
    · by_cases e : j = i
      · rw [e, fx 14 (by decide) (by decide) (by decide), (f1 (tX i) (fun z => by unfold nLg at z; omega)).2.2]
      · rw [fo (tX j) (by unfold tX at *; omega) (by unfold tX; omega), (f1 (tX j) (fun z => by unfold nLg tX at z; omega)).2.2]
  refine VE.aload_n (pc' := 44) d_Engine_attempt_43 rfl rfl ?_
  refine VE.aload_n (pc' := 45) d_Engine_attempt_44 rfl rfl ?_
  refine VE.cV (ci := 0) (T := T0) (N := 8) (pc' := 48) d_Engine_attempt_45 rfl mv_Engine_rollBack lk_Engine_114 rfl (by first | exact hC.k 9 rfl | exact hT' | exact hT.k) rfl rfl rfl (by show cs + c ≤ (100 : Nat); omega) (by show ns + z ≤ (850000 : Nat); omega) (sp) rfl rfl ?_
  refine VE.pop (pc' := 49) d_Engine_attempt_48 rfl rfl ?_
  refine VE.aload_n (pc' := 50) d_Engine_attempt_49 rfl rfl ?_
  refine VE.iconst (pc' := 51) d_Engine_attempt_50 rfl (by decide) ?_
  refine VE.pI (ci := 8) (T := T8) (N := 19) (k := 5) (k' := 5) (ty := ty8) (pc' := 54) d_Engine_attempt_51 rfl lk_Engine_103 in8 tk8 nm8 rfl rfl rfl rfl rfl rfl (by first | exact hC.k 9 rfl | exact hT' | exact hT.k) ?_
  refine VE.goto (pc' := 112) d_Engine_attempt_54 rfl ?_
  exact VE.vret d_Engine_attempt_112 rfl (by show cs + c ≤ (100 : Nat); omega) (by show ns + z ≤ (850000 : Nat); omega) (fin)
theorem att_late {b : Int} (hB : CB K P I n N g lq lv mv) (hE : ER I W n N g lv mv q) (hi : i < n) (h0 : W 221 i = 0) (h16 : N + (unM W i N).length < 16384) (hQ : EndK Q K P J I n g lq lv mv q cs ns (up2 (mAborts W i) 222 i 3)) (hc : cs ≤ 40 ∧ ns ≤ 60000) : VE m_Engine_attempt false ({ frames := 9, cells := 100, slots := 850000, locals := 420 } : Room) Q K P J I cs ns 88 [(0, vR (some 1064)), (1, vR (some (tX i))), (2, vI b)] [] := by
  obtain ⟨hT, hN, hN17⟩ := hB.t hi
  have hC := hB.c
  have n60 := hB.e.2.1
  have x0 : 2000 ≤ tX i ∧ tX i + 128 ≤ 10000 ∧ tX i + 128 ≤ 2000 + 128 * n := by unfold tX; omega
  have eL := undL_eq (I := I) (S := W) (g := g) (i := (i : Int)) hE.lg.2 N (Nat.le_refl _)
  have lenL : (undL I g i N 0).length = (unM W i N).length := by rw [eL, List.length_map]
  obtain ⟨g', c, z, K', P', I1, ⟨v1, v2, v3, v4, v5⟩, f1, r1, x1, sp⟩ := rollback_ex (J := J) (u := 0) (by omega) hC hT hN (hE.tx i hi).1.1 hB.v hB.l hE.lgR (hE.noUn ⟨hi, by omega⟩) (by rw [lenL]; exact h16)
  have lg := lgP_le v1.2.2
  have g10 := v1.2.2
  have hT' := v4.k
  have fo : ∀ o, o ≠ tX i → o ≠ 1069 → up2 (rbI I1 i (mv i)) (tX i) 5 3 o = I1 o := fun o a b => (funext (fun k => up2_o _ _ _ _ a)).trans (by unfold rbI; exact fiI_o a b _)
  have fx : ∀ k, k ≠ 4 → k ≠ 5 → k ≠ 6 → up2 (rbI I1 i (mv i)) (tX i) 5 3 (tX i) k = I1 (tX i) k := fun k a b d => by
    rw [up2_k _ _ _ _ b]
    unfold rbI
    rw [fiI_x (by omega), if_neg d, if_neg a]
  have fin : Q (.inl none) K' P' J (up2 (rbI I1 i (mv i)) (tX i) 5 3) (cs + c) (ns + z) := by
    have hF : ∀ o, ¬ nTx i o → ¬ nLg o → o ≠ 1069 → K' o = K o ∧ P' o = P o ∧ up2 (rbI I1 i (mv i)) (tX i) 5 3 o = I o := fun o a b d => by
      obtain ⟨k1, k2, k3⟩ := f1 o b
      exact ⟨k1, k2, (fo o (fun z => a (by unfold nTx; omega)) d).trans k3⟩
    refine hQ K' P' _ c z (N + (unM W i N).length + 1) g' lv mv (hB.tr hi v3 ⟨v1, ?_⟩ ⟨v4, v5.sc fx (fun a a0 a1 => fo _ (by omega) (by omega)) (hB.lev i hi), ?_⟩ (fun _ _ => ⟨rfl, rfl⟩) (fun o a b d => hF o a b (by omega))) (out_abort hE hB.lev ⟨hB.g10, v1.2.2⟩ hi (by omega) h16 x1 v2 f1) ⟨?_, ?_⟩ (fun j hj => ?_) (fun o ho => hF o (fun z => ho (by unfold nTx at z; unfold nEn; omega)) (fun z => ho (by unfold nLg at z; unfold nEn; omega)) (fun z => ho (by unfold nEn; omega)))
    · have := v2
      unfold LgN at *
      rw [fo 1192 (by omega) (by decide), ← lenL]; exact this
    · rw [fx 17 (by decide) (by decide) (by decide), (f1 (tX i) (fun z => by unfold nLg at z; omega)).2.2]; exact hN17
    · have := pC_upd (g := g) (g' := g') (lv := lv) (mv := mv) (lv' := lv) (mv' := mv) hi (fun _ _ => ⟨rfl, rfl⟩)
      omega
    · have := pS_upd (g := g) (g' := g') (lv := lv) (mv := mv) (lv' := lv) (mv' := mv) hi (fun _ _ => ⟨rfl, rfl⟩)
      omega
    · by_cases e : j = i
      · rw [e, fx 14 (by decide) (by decide) (by decide), (f1 (tX i) (fun z => by unfold nLg at z; omega)).2.2]
      · rw [fo (tX j) (by unfold tX at *; omega) (by unfold tX; omega), (f1 (tX j) (fun z => by unfold nLg tX at z; omega)).2.2]
  refine VE.aload_n (pc' := 89) d_Engine_attempt_88 rfl rfl ?_
  refine VE.aload_n (pc' := 90) d_Engine_attempt_89 rfl rfl ?_
  refine VE.cV (ci := 0) (T := T0) (N := 8) (pc' := 93) d_Engine_attempt_90 rfl mv_Engine_rollBack lk_Engine_114 rfl (by first | exact hC.k 9 rfl | exact hT' | exact hT.k) rfl rfl rfl (by show cs + c ≤ (100 : Nat); omega) (by show ns + z ≤ (850000 : Nat); omega) (sp) rfl rfl ?_
  refine VE.pop (pc' := 94) d_Engine_attempt_93 rfl rfl ?_
  refine VE.aload_n (pc' := 95) d_Engine_attempt_94 rfl rfl ?_
  refine VE.iconst (pc' := 96) d_Engine_attempt_95 rfl (by decide) ?_
  refine VE.pI (ci := 8) (T := T8) (N := 19) (k := 5) (k' := 5) (ty := ty8) (pc' := 99) d_Engine_attempt_96 rfl lk_Engine_103 in8 tk8 nm8 rfl rfl rfl rfl rfl rfl (by first | exact hC.k 9 rfl | exact hT' | exact hT.k) ?_
  refine VE.goto (pc' := 112) d_Engine_attempt_99 rfl ?_
  exact VE.vret d_Engine_attempt_112 rfl (by show cs + c ≤ (100 : Nat); omega) (by show ns + z ≤ (850000 : Nat); omega) (fin)
theorem att_done {S : IT} {b : Int} (hB : CB K P I n N g lq lv mv) (hE : ER I W n N g lv mv q) (hi : i < n) (h0 : W 221 i = 0) (hf : ∀ o k, (o < 233 ∨ 243 < o) → (o ≠ 100 ∨ k ≠ 41) → W o k = S o k) (hO : OKW S i (S 223 i) I W) (hno : ∀ k : Nat, W 100 41 = k → owF I i k = -1) (h16 : W 100 44 + W 100 41 ≤ 16384) (hQ : EndK Q K P J I n g lq lv mv q cs ns (up2 (mDoes W i) 222 i 0)) (hc : cs ≤ 40 ∧ ns ≤ 60000) : VE m_Engine_attempt false ({ frames := 9, cells := 100, slots := 850000, locals := 420 } : Room) Q K P J I cs ns 102 [(0, vR (some 1064)), (1, vR (some (tX i))), (2, vI b)] [] := by
  obtain ⟨hT, hN, hN17⟩ := hB.t hi
  have hC := hB.c
  have n60 := hB.e.2.1
  have x0 : 2000 ≤ tX i ∧ tX i + 128 ≤ 10000 ∧ tX i + 128 ≤ 2000 + 128 * n := by unfold tX; omega
  have h44 := hE.cnt.2.1
  have fS : ∀ o, (o < 233 ∨ 243 < o) → o ≠ 100 → W o = S o := fun o a b => funext (fun k => hf o k a (Or.inl b))
  obtain ⟨k0, ⟨e41, k48, e7, eT⟩, hr, hw, hO2, -, -, -⟩ := hO
  have pla := hE.mb.pla i
  obtain ⟨s, hs⟩ : ∃ s : Nat, W 223 i = s := ⟨(W 223 i).toNat, by omega⟩
  rw [← fS 223 (by decide) (by decide), hs] at hO2
  have X := mLog_X (S := W) (i := (i : Int)) h44 k0
  obtain ⟨d1, d2, d3, d4, d5, d6⟩ := hO2 (mLog W i k0) X.1
  have ht : ∀ j : Int, 0 ≤ j → j < k0 → (0 ≤ I 1102 j ∧ I 1102 j < 6) ∧ -1000 ≤ I 1103 j ∧ I 1103 j ≤ 1000 := fun j j0 j1 => by
    have jk : j.toNat < k0 := by omega
    have := trL_get (I := I) jk
    rw [show ((j.toNat : Nat) : Int) = j by omega, eT] at this
    exact hr _ (List.mem_of_getElem? this)
  obtain ⟨m', g', c, z, K', P', I', ⟨v1, v2, v3, v4, v5⟩, f1, r1, x1, sp⟩ := carry_ex (J := J) (by omega) hC hT hN (hE.tx i hi).1.1 hB.v hB.l e7 k48 ht (by omega) (by omega)
  obtain ⟨mv', m1, m2⟩ : ∃ f : Nat → Nat, f i = m' ∧ ∀ j, j ≠ i → f j = mv j := ⟨fun j => if j = i then m' else mv j, if_pos rfl, fun j h => if_neg h⟩
  have hT' := v2.k
  have lg := lgP_le v4.2.2
  have g10 := v4.2.2
  have m15 := v2.2.2.2.2.2
  have pl := pf_le m15
  have hD : DonI I I' i (lv i) (mv i) (mv' i) g g' N k0 (trL I k0) := ⟨fun o a b d => (f1 o (fun z => z.elim b (fun z => z.elim a d))).2.2, v5.1, by rw [m1]; exact x1⟩
  have eD : mDoesS (mLog W i k0) i s (S 228 i) = mDoes W i := by
    unfold mDoes
    rw [e41, hs, fS 228 (by decide) (by decide), show ((k0 : Int)).toNat = k0 by omega]
  have e14 : ∀ k, W 214 k = S 214 k := fun k => by rw [fS 214 (by decide) (by decide)]
  have e15 : ∀ k, W 215 k = S 215 k := fun k => by rw [fS 215 (by decide) (by decide)]
  have E1 := hE.done (s := s) hB.lev ⟨hB.g10, v4.2.2⟩ ⟨hi, by omega⟩ h0 hs eT hr (hno k0 e41) X (by omega) hD m2 d1 hw d2
    (fun t ρ t0 t1 h => (rowOk_of (S' := W) (S := S) (fun k => by rw [fS 202 (by decide) (by decide)]) (fun k => by rw [fS 203 (by decide) (by decide)]) (fun k => by rw [fS 204 (by decide) (by decide)]) (fun k => by rw [fS 205 (by decide) (by decide)])).mpr (d3 t ρ t0 t1 h))
    ⟨fun k hk => (d4.1 k hk).trans (e14 k).symm, fun y hy => (d4.2 y hy).trans (e15 y).symm⟩ d5 (fun t ρ t0 t1 h => (d6 t ρ t0 t1 h).trans (mIn_of e14 e15).symm) (fun y => by
      by_cases hy : 6 * (s : Int) ≤ y ∧ y < 6 * s + 6
      · have := d2.1 (y - 6 * s) (by omega) (by omega)
        rw [show 6 * (s : Int) + (y - 6 * s) = y by omega] at this
        omega
      · rw [d4.1 y hy, ← e14 y]; exact hE.mb.row y)
  rw [eD] at E1 d5
  have h0' : mDoes W i 221 i = 0 := by
    rw [d5 221 i (by decide) (by decide), X.1 221 i (by decide) (Or.inl (by decide))]; exact h0
  have h17 := (E1.fp i ⟨hi, by omega⟩).2
  have lv' : ∀ j, j < n → lv j < 15 ∧ mv' j < 15 := fun j hj => by
    have := hB.lev j hj
    by_cases e : j = i
    · rw [e, m1]; rw [e] at this; omega
    · rw [m2 j e]; omega
  have E2 := out_ref (V := 0) E1 lv' v4.2.2 hi h0'
  have fin : Q (.inl none) K' P' J (up2 I' (tX i) 5 0) (cs + c) (ns + z) := by
    have u5 : ∀ o, o ≠ tX i → up2 I' (tX i) 5 0 o = I' o := fun o a => funext (fun k => up2_o _ _ _ _ a)
    have hF : ∀ o, ¬ nTx i o → ¬ nLg o → o ≠ 1069 → K' o = K o ∧ P' o = P o ∧ up2 I' (tX i) 5 0 o = I o := fun o a b d => by
      obtain ⟨k1, k2, k3⟩ := f1 o (fun z => z.elim a (fun z => z.elim b d))
      exact ⟨k1, k2, (u5 o (fun z => a (by unfold nTx; omega))).trans k3⟩
    refine hQ K' P' _ c z (N + k0) g' lv mv' (hB.tr hi v1 ⟨v4, ?_⟩ ⟨by rw [m1]; exact v2, by rw [m1]; exact v3.sc (fun k _ a _ => up2_k _ _ _ _ a) (fun a a0 a1 => u5 _ (by omega)) ⟨(hB.lev i hi).1, m15⟩, ?_⟩ (fun j hj => ⟨rfl, m2 j hj⟩) (fun o a b d => hF o a b (by omega))) E2 ⟨?_, ?_⟩ (fun j hj => ?_) (fun o ho => hF o (fun z => ho (by unfold nTx at z; unfold nEn; omega)) (fun z => ho (by unfold nLg at z; unfold nEn; omega)) (fun z => ho (by unfold nEn; omega)))
    · have := v5
      unfold LgN at *
      rw [u5 1192 (by omega)]; exact this
    · rw [up2_k _ _ _ _ (by decide)]; omega
    · have := pC_upd (g := g) (g' := g') (lv := lv) (mv := mv) (lv' := lv) (mv' := mv') hi (fun j h => ⟨rfl, m2 j h⟩)
      rw [m1] at this
      omega
    · have := pS_upd (g := g) (g' := g') (lv := lv) (mv := mv) (lv' := lv) (mv' := mv') hi (fun j h => ⟨rfl, m2 j h⟩)
      rw [m1] at this
      omega
    · by_cases e : j = i
      · rw [e, up2_k _ _ _ _ (by decide), x1.2.1.1 14 (by decide), coI_o (by omega)]
      · rw [u5 _ (by unfold tX; omega), (f1 (tX j) (fun z => z.elim (fun z => by unfold nTx tX at z; omega) (fun z => z.elim (fun z => by unfold nLg tX at z; omega) (fun z => by unfold tX at z; omega)))).2.2]
  refine VE.aload_n (pc' := 103) d_Engine_attempt_102 rfl rfl ?_
  refine VE.aload_n (pc' := 104) d_Engine_attempt_103 rfl rfl ?_
  refine VE.cV (ci := 0) (T := T0) (N := 8) (pc' := 107) d_Engine_attempt_104 rfl mv_Engine_carryOut lk_Engine_127 rfl (by first | exact hC.k 9 rfl | exact hT' | exact hT.k) rfl rfl rfl (by show cs + c ≤ (100 : Nat); omega) (by show ns + z ≤ (850000 : Nat); omega) (sp) rfl rfl ?_
  refine VE.aload_n (pc' := 108) d_Engine_attempt_107 rfl rfl ?_
  refine VE.iconst (pc' := 109) d_Engine_attempt_108 rfl (by decide) ?_
  refine VE.pI (ci := 8) (T := T8) (N := 19) (k := 5) (k' := 5) (ty := ty8) (pc' := 112) d_Engine_attempt_109 rfl lk_Engine_103 in8 tk8 nm8 rfl rfl rfl rfl rfl rfl (by first | exact hC.k 9 rfl | exact hT' | exact hT.k) ?_
  exact VE.vret d_Engine_attempt_112 rfl (by show cs + c ≤ (100 : Nat); omega) (by show ns + z ≤ (850000 : Nat); omega) (fin)
end
