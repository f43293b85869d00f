/-! the class's shape and its potential -/
section
variable {K K' : KT} {P P' : PT} {I I' : IT} {n N N' g g' lq : Nat} {lv mv lv' mv' : Nat → Nat}
def sumN (f : Nat → Nat) : Nat → Nat
  | 0 => 0
  | n + 1 => sumN f n + f n
theorem sumN_of {f f' : Nat → Nat} : ∀ n, (∀ j, j < n → f' j = f j) → sumN f' n = sumN f n := by
  intro n
  induction n with
  | zero => intro _; rfl
  | succ n ih =>
    intro h
    show sumN f' n + f' n = sumN f n + f n
    rw [ih (fun j hj => h j (by omega)), h n (by omega)]
theorem sumN_upd {f f' : Nat → Nat} {i : Nat} : ∀ n, i < n → (∀ j, j < n → j ≠ i → f' j = f j) → sumN f' n + f i = sumN f n + f' i := by
  intro n
  induction n with
  | zero => intro h; omega
  | succ n ih =>
    intro hi h
    show sumN f' n + f' n + f i = sumN f n + f n + f' i
    by_cases e : i = n
    · subst e
      rw [sumN_of (f := f) (f' := f') i (fun j hj => h j (by omega) (by omega))]; omega
    · have := ih (by omega) (fun j hj hji => h j (by omega) hji)
      rw [h n (by omega) (by omega)]; omega
/-- cells and slots that growth has taken -/
def pC (g n : Nat) (lv mv : Nat → Nat) : Nat := g + sumN (fun j => 2 * lv j + mv j) n
def pS (g n : Nat) (lv mv : Nat → Nat) : Nat := lgP g + sumN (fun j => ps (lv j) + pf (mv j)) n
theorem pC_upd {i : Nat} (hi : i < n) (h : ∀ j, j ≠ i → lv' j = lv j ∧ mv' j = mv j) : pC g' n lv' mv' + (2 * lv i + mv i + g) = pC g n lv mv + (2 * lv' i + mv' i + g') := by
  have := sumN_upd (f := fun j => 2 * lv j + mv j) (f' := fun j => 2 * lv' j + mv' j) n hi (fun j _ e => by rw [(h j e).1, (h j e).2])
  unfold pC
  omega
theorem pS_upd {i : Nat} (hi : i < n) (h : ∀ j, j ≠ i → lv' j = lv j ∧ mv' j = mv j) : pS g' n lv' mv' + (ps (lv i) + pf (mv i) + lgP g) = pS g n lv mv + (ps (lv' i) + pf (mv' i) + lgP g') := by
  have := sumN_upd (f := fun j => ps (lv j) + pf (mv j)) (f' := fun j => ps (lv' j) + pf (mv' j)) n hi (fun j _ e => by rw [(h j e).1, (h j e).2])
  unfold pS
  omega
theorem ps_le {l : Nat} (h : l < 15) : ps l ≤ 524288 := by
  have : (2 : Nat) ^ l ≤ 2 ^ 14 := Nat.pow_le_pow_right (by decide) (by omega)
  unfold ps
  omega
theorem pf_le {l : Nat} (h : l < 15) : pf l ≤ 262144 := by
  have : (2 : Nat) ^ l ≤ 2 ^ 14 := Nat.pow_le_pow_right (by decide) (by omega)
  unfold pf
  omega
theorem lgP_le {l : Nat} (h : l < 10) : lgP l ≤ 524288 := by
  have : (2 : Nat) ^ l ≤ 2 ^ 9 := Nat.pow_le_pow_right (by decide) (by omega)
  unfold lgP
  omega
/-- the engine's names -/
def nEn (n o : Nat) : Prop := (1064 ≤ o ∧ o < 1224) ∨ (2000 ≤ o ∧ o < 2000 + 128 * n) ∨ (12000 ≤ o ∧ o < 12020)
/-- the engine's shape -/
def CB (K : KT) (P : PT) (I : IT) (n N g lq : Nat) (lv mv : Nat → Nat) : Prop := ClW K P ∧ (LgV K P g ∧ LgN I g N) ∧ EnL K P I n lq lv mv ∧ ∀ i, i < n → TxN I i (lv i) (mv i) ∧ I (tX i) 17 ≤ 16384
theorem CB.c (h : CB K P I n N g lq lv mv) : ClW K P := h.1
theorem CB.v (h : CB K P I n N g lq lv mv) : LgV K P g := h.2.1.1
theorem CB.l (h : CB K P I n N g lq lv mv) : LgN I g N := h.2.1.2
theorem CB.e (h : CB K P I n N g lq lv mv) : EnL K P I n lq lv mv := h.2.2.1
theorem CB.t (h : CB K P I n N g lq lv mv) {i : Nat} (hi : i < n) : TxV K P i (lv i) (mv i) ∧ TxN I i (lv i) (mv i) ∧ I (tX i) 17 ≤ 16384 := ⟨h.2.2.1.tx hi, (h.2.2.2 i hi).1, (h.2.2.2 i hi).2⟩
theorem CB.lev (h : CB K P I n N g lq lv mv) : ∀ j, j < n → lv j < 15 ∧ mv j < 15 := fun j hj => (h.2.2.1.tx hj).2.2.2.2
theorem CB.g10 (h : CB K P I n N g lq lv mv) : g < 10 := h.2.1.1.2.2
theorem TxN.fl {i l m : Nat} (h : TxN I i l m) (hl : l < 15 ∧ m < 15) (e : ∀ o, nTx i o → I' o = I o) : TxN I' i l m := by
  unfold TxN at *
  rw [e (tX i) (by unfold nTx; omega), e (tX i + 40 + l) (by unfold nTx; omega), e (tX i + 80 + m) (by unfold nTx; omega)]
  exact h
/-- scalars of a transaction -/
theorem TxN.sc {i l m : Nat} (h : TxN I i l m) (e : ∀ k, k ≠ 4 → k ≠ 5 → k ≠ 6 → I' (tX i) k = I (tX i) k) (e2 : ∀ a, 0 < a → a < 128 → I' (tX i + a) = I (tX i + a)) (hl : l < 15 ∧ m < 15) : TxN I' i l m := by
  have f40 : I' (tX i + 40 + l) = I (tX i + 40 + l) := by rw [Nat.add_assoc]; exact e2 _ (by omega) (by omega)
  have f80 : I' (tX i + 80 + m) = I (tX i + 80 + m) := by rw [Nat.add_assoc]; exact e2 _ (by omega) (by omega)
  unfold TxN at *
  rw [e 14 (by decide) (by decide) (by decide), e 17 (by decide) (by decide) (by decide), e 13 (by decide) (by decide) (by decide), f40, f80]
  exact h
theorem LgV.of (h : LgV K P g) (e : ∀ o, (o < 2000 ∨ 10000 ≤ o) → K' o = K o ∧ P' o = P o) : LgV K' P' g := by
  unfold LgV LgW at *
  have e1 := e 1192 (by omega)
  have e2 := e (12000 + g) (by omega)
  have e3 := e 1196 (by omega)
  have e4 := e 1197 (by omega)
  rw [e1.1, e1.2, e2.1, e3.1, e4.1]
  exact ⟨h.1, fun j j0 j1 => by rw [(e (12000 + j) (by omega)).1]; exact h.2.1 j j0 j1, h.2.2⟩
/-- a transaction and the log have changed -/
theorem CB.tr {i : Nat} (h : CB K P I n N g lq lv mv) (hi : i < n) (hC : ClW K' P') (hV : LgV K' P' g' ∧ LgN I' g' N') (hT : TxV K' P' i (lv' i) (mv' i) ∧ TxN I' i (lv' i) (mv' i) ∧ I' (tX i) 17 ≤ 16384) (hlv : ∀ j, j ≠ i → lv' j = lv j ∧ mv' j = mv j)
    (hF : ∀ o, ¬ nTx i o → ¬ nLg o → ¬ (1064 ≤ o ∧ o < 1192) → K' o = K o ∧ P' o = P o ∧ I' o = I o) : CB K' P' I' n N' g' lq lv' mv' := by
  have n60 := h.e.2.1
  have x0 : 2000 ≤ tX i ∧ tX i + 128 ≤ 10000 := by unfold tX; omega
  have lo : ∀ o, (o < 1064 ∨ (1192 < o ∧ o < 2000) ∨ (10000 ≤ o ∧ o < 12000) ∨ 12020 ≤ o) → K' o = K o ∧ P' o = P o ∧ I' o = I o := fun o ho => hF o (fun z => by unfold nTx at z; omega) (fun z => by unfold nLg at z; omega) (by omega)
  have tx : ∀ j, j < n → TxV K' P' j (lv' j) (mv' j) ∧ TxN I' j (lv' j) (mv' j) ∧ I' (tX j) 17 ≤ 16384 := fun j hj => by
    by_cases e : j = i
    · rw [e]; exact hT
    · obtain ⟨a, b, c⟩ := h.t hj
      have f : ∀ o, nTx j o → K' o = K o ∧ P' o = P o ∧ I' o = I o := fun o ho => by
        unfold nTx tX at ho
        exact hF o (fun z => by unfold nTx tX at z; omega) (fun z => by unfold nLg at z; omega) (by omega)
      rw [(hlv j e).1, (hlv j e).2]
      refine ⟨a.fl (fun o ho => ⟨(f o ho).1, (f o ho).2.1⟩), b.fl (h.lev j hj) (fun o ho => (f o ho).2.2), ?_⟩
      rw [(f (tX j) (by unfold nTx; omega)).2.2]; exact c
  exact ⟨hC, hV, h.e.fr (fun o ho => lo o (by omega)) ⟨(lo 999 (by omega)).1, (lo 999 (by omega)).2.1⟩ (fun j hj => (tx j hj).1), fun j hj => (tx j hj).2⟩
/-- scalars of a transaction alone have changed -/
theorem CB.sc {i : Nat} (h : CB K P I n N g lq lv mv) (hi : i < n) (e : ∀ o k, ¬ (o = tX i ∧ (k = 4 ∨ k = 5 ∨ k = 6)) → I' o k = I o k) : CB K P I' n N g lq lv mv := by
  have n60 := h.e.2.1
  have x0 : 2000 ≤ tX i ∧ tX i + 128 ≤ 10000 := by unfold tX; omega
  have eo : ∀ o, o ≠ tX i → I' o = I o := fun o ho => funext (fun k => e o k (fun z => ho z.1))
  obtain ⟨a, b, c⟩ := h.t hi
  refine h.tr hi h.c ⟨h.v, ?_⟩ ⟨a, b.sc (fun k k1 k2 k3 => e _ k (fun z => by omega)) (fun a a0 _ => eo _ (by omega)) (h.lev i hi), by rw [e _ 17 (fun z => by omega)]; exact c⟩ (fun _ _ => ⟨rfl, rfl⟩) (fun o ho _ _ => ⟨rfl, rfl, eo o (fun z => ho (by unfold nTx; omega))⟩)
  have := h.l
  unfold LgN at *
  rw [eo 1192 (by omega)]
  exact this
end
