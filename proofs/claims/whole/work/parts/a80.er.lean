/-! class and reference hold the same engine -/
section
variable {I S I' S' : IT}
/-- a transaction's own things -/
def TxE (I S : IT) (i l : Nat) : Prop := (I (tX i) 0 = i ∧ I (tX i) 1 = S 220 i ∧ I (tX i) 2 = S 224 i ∧ I (tX i) 4 = S 221 i ∧ I (tX i) 5 = S 222 i ∧ I (tX i) 6 = S 225 i) ∧ RdE I S i l
def opS (S : IT) (n : Nat) (i : Nat) : Prop := i < n ∧ S 221 i < 2
/-- a WRITE of a row by i -/
def wrR (S : IT) (r : Int) (i t y : Int) : Prop := 0 ≤ r ∧ r < S 100 44 ∧ S 246 r = 0 ∧ S 247 r = i ∧ S 248 r = t ∧ S 249 r = y
/-- the chain of those that wait -/
def itw (S : IT) : Nat → Int → Int
  | 0, x => x
  | k + 1, x => if x = -1 then -1 else itw S k (S 225 x)
def AcS (S : IT) (n : Nat) : Prop := ∀ (i k : Nat), i < n → 1 ≤ k → itw S k i ≠ i
def ER (I S : IT) (n N g : Nat) (lv mv : Nat → Nat) (q : Int) : Prop := (RSch I S ∧ SSch S) ∧ (MB S) ∧ (S 100 19 = n ∧ S 100 44 = N ∧ n ≤ 60 ∧ N ≤ 16384) ∧ (∀ i, i < n → TxE I S i (lv i)) ∧ (∀ i : Nat, i < n → (0 ≤ S 221 i ∧ S 221 i ≤ 3) ∧ (S 221 i = 1 → 0 ≤ S 225 i ∧ S 225 i < n) ∧ (S 221 i ≠ 1 → S 225 i = -1)) ∧ (AcS S n) ∧ ((∀ i j, opS S n i → opS S n j → S 223 i = S 223 j → i = j) ∧ ∀ p, 0 ≤ p → p < 4 → (S 226 p ≠ 0 ↔ ∃ i, opS S n i ∧ S 223 i = p)) ∧ (∀ i, opS S n i → (RowEq I (tX i + 33) S (S 223 i) ∧ RWc I (tX i + 33)) ∧ RWm S (S 223 i) ∧ SChk S (S 223 i)) ∧ ((RowEq I 1161 S 4 ∧ RWc I 1161) ∧ RWm S 4 ∧ SChk S 4) ∧ (((∀ z, 0 ≤ z → z < 12006 → I 1070 z = S 217 z) ∧ (∀ t, 0 ≤ t → t < 6 → I 1071 t = S 218 t) ∧ I 1064 7 = S 100 16) ∧ (0 ≤ S 100 16 ∧ S 100 16 ≤ S 100 45 ∧ S 100 45 ≤ N) ∧ (∀ t y, 0 ≤ t → t < 6 → -1000 ≤ y → y ≤ 1000 → S 217 (2001 * t + y + 1000) ≤ S 218 t) ∧ (∀ t, 0 ≤ t → t < 6 → S 218 t ≤ S 100 16) ∧ ∀ i : Nat, i < n → S 224 i ≤ S 100 16) ∧ ((I 1192 0 = N ∧ I 1192 1 = S 100 45) ∧ ∀ r : Nat, r < N → lgF I g r 0 = S 246 r ∧ lgF I g r 1 = S 247 r ∧ lgF I g r 2 = S 248 r ∧ lgF I g r 3 = S 249 r) ∧ ((∀ r, 0 ≤ r → r < (N : Int) → (0 ≤ S 246 r ∧ S 246 r ≤ 4) ∧ (S 246 r ≠ 4 → 0 ≤ S 247 r ∧ S 247 r < n)) ∧ ∀ r, S 246 r = 0 → (0 ≤ S 248 r ∧ S 248 r < 6) ∧ -1000 ≤ S 249 r ∧ S 249 r ≤ 1000) ∧ ((∀ i, opS S n i → ∀ r, 0 ≤ r → r < (N : Int) → S 247 r = i → S 246 r = 0 ∨ S 246 r = 4) ∧ ∀ i : Nat, i < n → (S 221 i = 2 ↔ ∃ r, 0 ≤ r ∧ r < (N : Int) ∧ S 246 r = 1 ∧ S 247 r = i)) ∧ (∀ r q, 0 ≤ r → r < q → q < (N : Int) → (S 246 r = 1 ∨ S 246 r = 3) → S 246 q = 0 → S 247 q ≠ S 247 r) ∧ (∀ i, opS S n i → ∀ r q t y j, r < q → wrR S r i t y → wrR S q j t y → j = i) ∧ ((∀ z, 0 ≤ z → z < 12006 → I 1069 z = -1 ∨ ∃ i, opS S n i ∧ I 1069 z = (i : Int)) ∧ ∀ i, opS S n i → ∀ t y, 0 ≤ t → t < 6 → -1000 ≤ y → y ≤ 1000 → (I 1069 (fpO t y) = i ↔ ∃ r, wrR S r i t y)) ∧ (∀ i, opS S n i → (∀ z, 0 ≤ z → z < 12006 → (FpS I i (mv i) z ↔ I 1069 z = i)) ∧ I (tX i) 17 ≤ N) ∧ (∀ i, opS S n i → ∀ (r : Nat) t y, wrR S r i t y → (∀ q, (r : Int) < q → ¬ wrR S q i t y) → ∀ c, 0 ≤ c → c < 4 → lgF I g r (4 + c) = rwCell I (tX i + 33) t y c) ∧ ((∀ (j r : Nat) t y, j < n → S 221 j = 2 → wrR S r j t y → (∀ (q : Int) (k : Nat), (r : Int) < q → k < n → S 221 k = 2 → ¬ wrR S q k t y) → ∀ c, 0 ≤ c → c < 4 → lgF I g r (4 + c) = rwCell I 1161 t y c) ∧ ∀ t y, 0 ≤ t → t < 6 → (∀ (q : Int) (k : Nat), k < n → S 221 k = 2 → ¬ wrR S q k t y) → rwFind I 1161 t y = -1) ∧ ((∀ i : Nat, i < n → 0 ≤ S 233 i ∧ S 233 i + 4 * n ≤ q) ∧ (∀ j, 0 ≤ S 234 j ∧ S 234 j < 6) ∧ q ≤ 2048) ∧ (∀ i : Nat, i < n → S 221 i = 1 → PdE I S i ∧ ∀ t y, YS S i t y → mRead S i t y)
theorem ER.sch {I S : IT} {n N g : Nat} {lv mv : Nat → Nat} {q : Int} (h : ER I S n N g lv mv q) : RSch I S ∧ SSch S := h.1
theorem ER.mb {I S : IT} {n N g : Nat} {lv mv : Nat → Nat} {q : Int} (h : ER I S n N g lv mv q) : MB S := h.2.1
theorem ER.cnt {I S : IT} {n N g : Nat} {lv mv : Nat → Nat} {q : Int} (h : ER I S n N g lv mv q) : S 100 19 = n ∧ S 100 44 = N ∧ n ≤ 60 ∧ N ≤ 16384 := h.2.2.1
theorem ER.tx {I S : IT} {n N g : Nat} {lv mv : Nat → Nat} {q : Int} (h : ER I S n N g lv mv q) : ∀ i, i < n → TxE I S i (lv i) := h.2.2.2.1
theorem ER.ph {I S : IT} {n N g : Nat} {lv mv : Nat → Nat} {q : Int} (h : ER I S n N g lv mv q) : ∀ i : Nat, i < n → (0 ≤ S 221 i ∧ S 221 i ≤ 3) ∧ (S 221 i = 1 → 0 ≤ S 225 i ∧ S 225 i < n) ∧ (S 221 i ≠ 1 → S 225 i = -1) := h.2.2.2.2.1
theorem ER.ac {I S : IT} {n N g : Nat} {lv mv : Nat → Nat} {q : Int} (h : ER I S n N g lv mv q) : AcS S n := h.2.2.2.2.2.1
theorem ER.sl {I S : IT} {n N g : Nat} {lv mv : Nat → Nat} {q : Int} (h : ER I S n N g lv mv q) : (∀ i j, opS S n i → opS S n j → S 223 i = S 223 j → i = j) ∧ ∀ p, 0 ≤ p → p < 4 → (S 226 p ≠ 0 ↔ ∃ i, opS S n i ∧ S 223 i = p) := h.2.2.2.2.2.2.1
theorem ER.own {I S : IT} {n N g : Nat} {lv mv : Nat → Nat} {q : Int} (h : ER I S n N g lv mv q) : ∀ i, opS S n i → (RowEq I (tX i + 33) S (S 223 i) ∧ RWc I (tX i + 33)) ∧ RWm S (S 223 i) ∧ SChk S (S 223 i) := h.2.2.2.2.2.2.2.1
theorem ER.st {I S : IT} {n N g : Nat} {lv mv : Nat → Nat} {q : Int} (h : ER I S n N g lv mv q) : (RowEq I 1161 S 4 ∧ RWc I 1161) ∧ RWm S 4 ∧ SChk S 4 := h.2.2.2.2.2.2.2.2.1
theorem ER.sp {I S : IT} {n N g : Nat} {lv mv : Nat → Nat} {q : Int} (h : ER I S n N g lv mv q) : ((∀ z, 0 ≤ z → z < 12006 → I 1070 z = S 217 z) ∧ (∀ t, 0 ≤ t → t < 6 → I 1071 t = S 218 t) ∧ I 1064 7 = S 100 16) ∧ (0 ≤ S 100 16 ∧ S 100 16 ≤ S 100 45 ∧ S 100 45 ≤ N) ∧ (∀ t y, 0 ≤ t → t < 6 → -1000 ≤ y → y ≤ 1000 → S 217 (2001 * t + y + 1000) ≤ S 218 t) ∧ (∀ t, 0 ≤ t → t < 6 → S 218 t ≤ S 100 16) ∧ ∀ i : Nat, i < n → S 224 i ≤ S 100 16 := h.2.2.2.2.2.2.2.2.2.1
theorem ER.lg {I S : IT} {n N g : Nat} {lv mv : Nat → Nat} {q : Int} (h : ER I S n N g lv mv q) : (I 1192 0 = N ∧ I 1192 1 = S 100 45) ∧ ∀ r : Nat, r < N → lgF I g r 0 = S 246 r ∧ lgF I g r 1 = S 247 r ∧ lgF I g r 2 = S 248 r ∧ lgF I g r 3 = S 249 r := h.2.2.2.2.2.2.2.2.2.2.1
theorem ER.lr {I S : IT} {n N g : Nat} {lv mv : Nat → Nat} {q : Int} (h : ER I S n N g lv mv q) : (∀ r, 0 ≤ r → r < (N : Int) → (0 ≤ S 246 r ∧ S 246 r ≤ 4) ∧ (S 246 r ≠ 4 → 0 ≤ S 247 r ∧ S 247 r < n)) ∧ ∀ r, S 246 r = 0 → (0 ≤ S 248 r ∧ S 248 r < 6) ∧ -1000 ≤ S 249 r ∧ S 249 r ≤ 1000 := h.2.2.2.2.2.2.2.2.2.2.2.1
theorem ER.lo {I S : IT} {n N g : Nat} {lv mv : Nat → Nat} {q : Int} (h : ER I S n N g lv mv q) : (∀ i, opS S n i → ∀ r, 0 ≤ r → r < (N : Int) → S 247 r = i → S 246 r = 0 ∨ S 246 r = 4) ∧ ∀ i : Nat, i < n → (S 221 i = 2 ↔ ∃ r, 0 ≤ r ∧ r < (N : Int) ∧ S 246 r = 1 ∧ S 247 r = i) := h.2.2.2.2.2.2.2.2.2.2.2.2.1
theorem ER.le {I S : IT} {n N g : Nat} {lv mv : Nat → Nat} {q : Int} (h : ER I S n N g lv mv q) : ∀ r q, 0 ≤ r → r < q → q < (N : Int) → (S 246 r = 1 ∨ S 246 r = 3) → S 246 q = 0 → S 247 q ≠ S 247 r := h.2.2.2.2.2.2.2.2.2.2.2.2.2.1
theorem ER.l3 {I S : IT} {n N g : Nat} {lv mv : Nat → Nat} {q : Int} (h : ER I S n N g lv mv q) : ∀ i, opS S n i → ∀ r q t y j, r < q → wrR S r i t y → wrR S q j t y → j = i := h.2.2.2.2.2.2.2.2.2.2.2.2.2.2.1
theorem ER.wr {I S : IT} {n N g : Nat} {lv mv : Nat → Nat} {q : Int} (h : ER I S n N g lv mv q) : (∀ z, 0 ≤ z → z < 12006 → I 1069 z = -1 ∨ ∃ i, opS S n i ∧ I 1069 z = (i : Int)) ∧ ∀ i, opS S n i → ∀ t y, 0 ≤ t → t < 6 → -1000 ≤ y → y ≤ 1000 → (I 1069 (fpO t y) = i ↔ ∃ r, wrR S r i t y) := h.2.2.2.2.2.2.2.2.2.2.2.2.2.2.2.1
theorem ER.fp {I S : IT} {n N g : Nat} {lv mv : Nat → Nat} {q : Int} (h : ER I S n N g lv mv q) : ∀ i, opS S n i → (∀ z, 0 ≤ z → z < 12006 → (FpS I i (mv i) z ↔ I 1069 z = i)) ∧ I (tX i) 17 ≤ N := h.2.2.2.2.2.2.2.2.2.2.2.2.2.2.2.2.1
theorem ER.v1 {I S : IT} {n N g : Nat} {lv mv : Nat → Nat} {q : Int} (h : ER I S n N g lv mv q) : ∀ i, opS S n i → ∀ (r : Nat) t y, wrR S r i t y → (∀ q, (r : Int) < q → ¬ wrR S q i t y) → ∀ c, 0 ≤ c → c < 4 → lgF I g r (4 + c) = rwCell I (tX i + 33) t y c := h.2.2.2.2.2.2.2.2.2.2.2.2.2.2.2.2.2.1
theorem ER.v2 {I S : IT} {n N g : Nat} {lv mv : Nat → Nat} {q : Int} (h : ER I S n N g lv mv q) : (∀ (j r : Nat) t y, j < n → S 221 j = 2 → wrR S r j t y → (∀ (q : Int) (k : Nat), (r : Int) < q → k < n → S 221 k = 2 → ¬ wrR S q k t y) → ∀ c, 0 ≤ c → c < 4 → lgF I g r (4 + c) = rwCell I 1161 t y c) ∧ ∀ t y, 0 ≤ t → t < 6 → (∀ (q : Int) (k : Nat), k < n → S 221 k = 2 → ¬ wrR S q k t y) → rwFind I 1161 t y = -1 := h.2.2.2.2.2.2.2.2.2.2.2.2.2.2.2.2.2.2.1
theorem ER.rd {I S : IT} {n N g : Nat} {lv mv : Nat → Nat} {q : Int} (h : ER I S n N g lv mv q) : (∀ i : Nat, i < n → 0 ≤ S 233 i ∧ S 233 i + 4 * n ≤ q) ∧ (∀ j, 0 ≤ S 234 j ∧ S 234 j < 6) ∧ q ≤ 2048 := h.2.2.2.2.2.2.2.2.2.2.2.2.2.2.2.2.2.2.2.1
theorem ER.pd {I S : IT} {n N g : Nat} {lv mv : Nat → Nat} {q : Int} (h : ER I S n N g lv mv q) : ∀ i : Nat, i < n → S 221 i = 1 → PdE I S i ∧ ∀ t y, YS S i t y → mRead S i t y := h.2.2.2.2.2.2.2.2.2.2.2.2.2.2.2.2.2.2.2.2
/-! the chain of those that wait -/
theorem itw_none (k : Nat) : itw S k (-1) = -1 := by
  cases k with
  | zero => rfl
  | succ k => exact if_pos rfl
theorem itw_add : ∀ (a b : Nat) (x : Int), itw S (a + b) x = itw S b (itw S a x) := by
  intro a
  induction a with
  | zero => intro b x; rw [Nat.zero_add]; rfl
  | succ a ih =>
    intro b x
    rw [show a + 1 + b = (a + b) + 1 by omega]
    show (if x = -1 then -1 else itw S (a + b) (S 225 x)) = itw S b (if x = -1 then -1 else itw S a (S 225 x))
    by_cases h : x = -1
    · rw [if_pos h, if_pos h, itw_none]
    · rw [if_neg h, if_neg h, ih]
theorem itw_rg {n : Nat} (hp : ∀ j : Nat, j < n → S 225 j = -1 ∨ (0 ≤ S 225 j ∧ S 225 j < n)) : ∀ (k : Nat) (x : Int), (x = -1 ∨ (0 ≤ x ∧ x < n)) → itw S k x = -1 ∨ (0 ≤ itw S k x ∧ itw S k x < n) := by
  intro k
  induction k with
  | zero => intro x h; exact h
  | succ k ih =>
    intro x h
    show (if x = -1 then -1 else itw S k (S 225 x)) = -1 ∨ _
    by_cases e : x = -1
    · rw [e]; exact Or.inl (if_pos rfl)
    · have h' := h.resolve_left e
      have e2 : itw S (k + 1) x = itw S k (S 225 x) := if_neg e
      rw [e2, if_neg e]
      have := hp x.toNat (by omega)
      rw [show ((x.toNat : Nat) : Int) = x by omega] at this
      exact ih _ this
/-- a chain without a ring ends before each has been met -/
theorem chain_end {n : Nat} (hn : n ≤ 60) (hp : ∀ j : Nat, j < n → S 225 j = -1 ∨ (0 ≤ S 225 j ∧ S 225 j < n)) (ha : AcS S n) {i : Int} (hi : 0 ≤ i ∧ i < n) {b : Int} (hb : 0 ≤ b ∧ b < n) : ∃ k : Nat, k < 60 ∧ (itw S k b = -1 ∨ itw S k b = i) := by
  refine Classical.byContradiction (fun hno => ?_)
  have all : ∀ k : Nat, k < 60 → itw S k b ≠ -1 ∧ itw S k b ≠ i := fun k hk => ⟨fun z => hno ⟨k, hk, Or.inl z⟩, fun z => hno ⟨k, hk, Or.inr z⟩⟩
  have rg : ∀ k : Nat, k < 60 → 0 ≤ itw S k b ∧ itw S k b < n := fun k hk => (itw_rg hp k b (Or.inr hb)).resolve_left (all k hk).1
  have nd : ((List.range 60).map (fun k : Nat => (itw S k b).toNat)).Nodup := by
    refine nodup_map_on (fun x hx y hy e => ?_) List.nodup_range
    have hx := List.mem_range.mp hx
    have hy := List.mem_range.mp hy
    have rx := rg x hx
    have ry := rg y hy
    have key : ∀ u v : Nat, u < v → v < 60 → itw S u b = itw S v b → False := fun u v huv hv e2 => by
      have ru := rg u (by omega)
      have := ha (itw S u b).toNat (v - u) (by omega) (by omega)
      rw [show (((itw S u b).toNat : Nat) : Int) = itw S u b by omega, ← itw_add, show u + (v - u) = v by omega] at this
      exact this e2.symm
    have e' : itw S x b = itw S y b := by
      have : (itw S x b).toNat = (itw S y b).toNat := e
      omega
    rcases Nat.lt_trichotomy x y with h | h | h
    · exact (key x y h hy e').elim
    · exact h
    · exact (key y x h hx e'.symm).elim
  have nd2 : (i.toNat :: (List.range 60).map (fun k : Nat => (itw S k b).toNat)).Nodup := by
    refine List.nodup_cons.mpr ⟨fun hm => ?_, nd⟩
    obtain ⟨k, hk, e⟩ := List.mem_map.mp hm
    have hk := List.mem_range.mp hk
    have := rg k hk
    have e' : (itw S k b).toNat = i.toNat := e
    exact (all k hk).2 (by omega)
  have := nd2.length_le_of_subset (l₂ := List.range n) (fun x hx => by
    rcases List.mem_cons.mp hx with h | h
    · rw [h]; exact List.mem_range.mpr (by omega)
    · obtain ⟨k, hk, e⟩ := List.mem_map.mp h
      have := rg k (List.mem_range.mp hk)
      have e' : (itw S k b).toNat = x := e
      exact List.mem_range.mpr (by omega))
  rw [List.length_cons, List.length_map, List.length_range, List.length_range] at this
  omega
theorem mCh_itw {i : Int} : ∀ (k : Nat) (x : Int), (∀ j : Nat, j < k → itw S j x ≠ -1 ∧ itw S j x ≠ i) → ∀ f : Nat, mCh S i (k + f) x = mCh S i f (itw S k x) := by
  intro k
  induction k with
  | zero => intro x _ f; rw [Nat.zero_add]; rfl
  | succ k ih =>
    intro x h f
    have h0 := h 0 (by omega)
    have hx : ¬ (x = -1 ∨ x = i) := fun z => z.elim h0.1 h0.2
    have e1 : itw S (k + 1) x = itw S k (S 225 x) := if_neg (fun z => h0.1 z)
    rw [show k + 1 + f = (k + f) + 1 by omega, mCh_go hx, e1]
    refine ih _ (fun j hj => ?_) f
    have := h (j + 1) (by omega)
    have e2 : itw S (j + 1) x = itw S j (S 225 x) := if_neg (fun z => h0.1 z)
    rw [e2] at this
    exact this
theorem least {p : Nat → Prop} : ∀ k : Nat, (∃ j : Nat, j ≤ k ∧ p j) → ∃ m : Nat, m ≤ k ∧ p m ∧ ∀ j : Nat, j < m → ¬ p j := by
  intro k
  induction k with
  | zero =>
    rintro ⟨j, hj, h⟩
    have : j = 0 := by omega
    subst this
    exact ⟨0, by omega, h, fun u hu => by omega⟩
  | succ k ih =>
    rintro ⟨j, hj, h⟩
    by_cases q : ∃ j : Nat, j ≤ k ∧ p j
    · obtain ⟨m, a, b⟩ := ih q
      exact ⟨m, by omega, b⟩
    · have : j = k + 1 := Classical.byContradiction (fun z => q ⟨j, by omega, h⟩)
      subst this
      exact ⟨k + 1, by omega, h, fun u hu z => q ⟨u, by omega, z⟩⟩
/-- both follow the chain to the same end -/
theorem chain_eq {n : Nat} (hn : n ≤ 60) (hp : ∀ j : Nat, j < n → S 225 j = -1 ∨ (0 ≤ S 225 j ∧ S 225 j < n)) (ha : AcS S n) (hI : ∀ j : Nat, j < n → I (tX j) 6 = S 225 j) {i : Int} (hi : 0 ≤ i ∧ i < n) {b : Int} (hb : 0 ≤ b ∧ b < n) : (ewR I n i 60 b ↔ mCh S i 60 b = i) ∧ (mCh S i 60 b = -1 ∨ mCh S i 60 b = i) := by
  obtain ⟨k, hk, he⟩ := chain_end hn hp ha hi hb
  obtain ⟨m, hm, h1, h2⟩ := least (p := fun m => itw S m b = -1 ∨ itw S m b = i) k ⟨k, Nat.le_refl _, he⟩
  have h2' : ∀ j : Nat, j < m → itw S j b ≠ -1 ∧ itw S j b ≠ i := fun j hj => ⟨fun z => h2 j hj (Or.inl z), fun z => h2 j hj (Or.inr z)⟩
  have e := mCh_itw (S := S) (i := i) m b h2' (60 - m)
  rw [show m + (60 - m) = 60 by omega] at e
  have e2 : mCh S i 60 b = itw S m b := e.trans (mCh_end h1)
  -- the class's walk
  have cls : ∀ (m : Nat) (b : Int), (b = -1 ∨ (0 ≤ b ∧ b < n)) → (∀ j : Nat, j < m → itw S j b ≠ -1 ∧ itw S j b ≠ i) → (itw S m b = -1 ∨ itw S m b = i) → ∀ f : Nat, m < f → (ewR I n i f b ↔ itw S m b = i) := by
    intro m
    induction m with
    | zero =>
      intro b rb _ hend f hf
      obtain ⟨f, rfl⟩ : ∃ g, f = g + 1 := ⟨f - 1, by omega⟩
      show ((0 ≤ b ∧ b < n) ∧ (b = i ∨ _)) ↔ b = i
      have hend : b = -1 ∨ b = i := hend
      constructor
      · rintro ⟨r, -⟩
        exact hend.resolve_left (by omega)
      · intro z
        exact ⟨by omega, Or.inl z⟩
    | succ m ih =>
      intro b rb hno hend f hf
      obtain ⟨f, rfl⟩ : ∃ g, f = g + 1 := ⟨f - 1, by omega⟩
      have h0 := hno 0 (by omega)
      have hb1 : b ≠ -1 := h0.1
      have hbi : b ≠ i := h0.2
      have rb' := rb.resolve_left hb1
      have en : ∀ j, itw S (j + 1) b = itw S j (S 225 b) := fun j => if_neg hb1
      have hj := hI b.toNat (by omega)
      have hpj := hp b.toNat (by omega)
      rw [show ((b.toNat : Nat) : Int) = b by omega] at hj hpj
      rw [en] at hend ⊢
      rw [← ih (S 225 b) hpj (fun j hj => by rw [← en]; exact hno (j + 1) (by omega)) hend f (by omega)]
      show ((0 ≤ b ∧ b < n) ∧ (b = i ∨ ewR I n i f (I (tX b.toNat) 6))) ↔ _
      rw [hj]
      exact ⟨fun z => z.2.resolve_left hbi, fun z => ⟨rb', Or.inr z⟩⟩
  have c := cls m b (Or.inr hb) h2' h1 60 (by omega)
  rw [e2]
  exact ⟨c, h1⟩
end
