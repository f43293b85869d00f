/-! the leaves as the class has described them -/
section
variable {I S T U : IT} {x : Int} {n q : Nat}
theorem Ct_ge {e : Int} : ∀ {l : List (Int × Int)} {o : Int}, Ct S x o l e → (∀ p ∈ l, o ≤ p.2 ∧ p.2 + wdN S x p.1.toNat ≤ e) ∧ o ≤ e := by
  intro l
  induction l with
  | nil => intro o h; exact ⟨fun p hp => (List.not_mem_nil hp).elim, Int.le_of_eq h⟩
  | cons p l ihq =>
    intro o h
    obtain ⟨a1, a2⟩ := ihq h.2
    have e2 := h.1
    refine ⟨fun p' hp => ?_, by omega⟩
    rcases List.mem_cons.mp hp with w | w
    · rw [w]; exact ⟨by omega, by omega⟩
    · have := a1 p' w; omega
theorem Ct_lt {e : Int} {p : Int × Int} {l2 : List (Int × Int)} : ∀ {l1 : List (Int × Int)} {o : Int}, Ct S x o (l1 ++ p :: l2) e → ∀ p1 ∈ l1, p1.2 + wdN S x p1.1.toNat ≤ p.2 := by
  intro l1
  induction l1 with
  | nil => intro o h p1 hp; exact (List.not_mem_nil hp).elim
  | cons a l1 ihq =>
    intro o h p1 hp
    rcases List.mem_cons.mp hp with w | w
    · have h2 : Ct S x (o + (wdN S x a.1.toNat : Int)) (l1 ++ p :: l2) e := h.2
      have := (Ct_ge h2).1 p (List.mem_append_right _ List.mem_cons_self)
      have e2 : a.2 = o := h.1
      rw [w]; omega
    · exact ihq h.2 p1 w
theorem dcE_2 {f l : Int} {v : Int → Int} {z : Int} : ∀ c : Nat, dcE S f l v c 1392 z = if f ≤ z ∧ z < f + c then l else S 1392 z := by
  intro c
  induction c with
  | zero => exact (if_neg (by omega)).symm
  | succ c ihq =>
    have e1q : dcE S f l v (c + 1) = up2 (up2 (dcE S f l v c) 1392 (f + c) l) 1393 (f + c) (v c) := rfl
    rw [e1q, up2_o _ _ _ _ (by decide), up2_if, ihq]
    by_cases y : z = f + c
    · rw [if_pos y, if_pos (by omega)]
    · rw [if_neg y]
      by_cases w : f ≤ z ∧ z < f + c
      · rw [if_pos w, if_pos (by omega)]
      · rw [if_neg w, if_neg (by omega)]
theorem dcE_3 {f l : Int} {v : Int → Int} {z : Int} : ∀ c : Nat, dcE S f l v c 1393 z = if f ≤ z ∧ z < f + c then v (z - f) else S 1393 z := by
  intro c
  induction c with
  | zero => exact (if_neg (by omega)).symm
  | succ c ihq =>
    have e1q : dcE S f l v (c + 1) = up2 (up2 (dcE S f l v c) 1392 (f + c) l) 1393 (f + c) (v c) := rfl
    rw [e1q, up2_if, up2_o _ _ _ _ (by decide), ihq]
    by_cases y : z = f + c
    · rw [if_pos y, if_pos (by omega), y, show f + (c : Int) - f = c by omega]
    · rw [if_neg y]
      by_cases w : f ≤ z ∧ z < f + c
      · rw [if_pos w, if_pos (by omega)]
      · rw [if_neg w, if_neg (by omega)]
/-- the rows of a leaf, as the class takes them -/
def dlR (S : IT) (q : Nat) (x : Int) : Int := if S (q + 3) x = 0 then S 1385 (dlT S q x) else 10
theorem dl_list (hq : 10000 ≤ q) {P : Nat → Prop} (hP : ∀ j : Nat, j < n → (P j ↔ I 1387 j ≠ 0 ∧ ¬ quBlk I q j)) {e : Int} (len : (lvR P 0 n).length ≤ 3) (ct : Ct S x 0 ((lvR P 0 n).map (fun j : Nat => ((j : Int), I 1388 (j : Int)))) e) (hw : ∀ j : Nat, j < n → I (q + 5) j = (wdN S x j : Int)) :
    ∀ m, m ≤ n → dlL I q m 1384 4 = (lvR P 0 m).length ∧ ∀ (i j : Nat), (lvR P 0 m)[i]? = some j → dlL I q m 1390 i = dlR I q j ∧ dlL I q m 1391 i = dlB I q j ∧ ∀ c : Int, 0 ≤ c → c < wdN S x j → dlL I q m 1392 (I 1388 j + c) = i ∧ dlL I q m 1393 (I 1388 j + c) = dlV I (dlB I q j) (dlT I q j) c := by
  intro m
  induction m with
  | zero =>
    intro _
    refine ⟨up2_eq _ _ _ _, fun i j hyp => ?_⟩
    rw [show lvR P 0 0 = [] from rfl, List.getElem?_nil] at hyp
    cases hyp
  | succ m ihq =>
    intro hm
    obtain ⟨c4, cl⟩ := ihq (by omega)
    have o3 : dlL I q m (q + 3) = I (q + 3) := dlL_o (by omega) (by omega) (by omega) (by omega) (by omega) m
    have o4 : dlL I q m (q + 4) = I (q + 4) := dlL_o (by omega) (by omega) (by omega) (by omega) (by omega) m
    have o5 : dlL I q m (q + 5) = I (q + 5) := dlL_o (by omega) (by omega) (by omega) (by omega) (by omega) m
    have o7 : dlL I q m 1387 = I 1387 := dlL_o (by decide) (by decide) (by decide) (by decide) (by decide) m
    have o8 : dlL I q m 1388 = I 1388 := dlL_o (by decide) (by decide) (by decide) (by decide) (by decide) m
    have oa : dlL I q m 1385 = I 1385 := dlL_o (by decide) (by decide) (by decide) (by decide) (by decide) m
    have ob : dlL I q m 1386 = I 1386 := dlL_o (by decide) (by decide) (by decide) (by decide) (by decide) m
    have pm := hP m (by omega)
    have qb : quBlk (dlL I q m) q m ↔ quBlk I q m := quBlk_of o3 o4
    have pre : lvR P 0 n = lvR P 0 (m + 1) ++ lvR P (0 + (m + 1)) (n - (m + 1)) := by
      rw [← lvR_add, show m + 1 + (n - (m + 1)) = n by omega]
    by_cases y : P m
    · have es : lvR P 0 (m + 1) = lvR P 0 m ++ [m] := by
        have := lvR_yes (P := P) (a := 0) (m := m) (by rw [Nat.zero_add]; exact y)
        rw [Nat.zero_add] at this
        exact this
      have l3 : (lvR P 0 m).length < 3 := by
        rw [pre, es, List.length_append, List.length_append] at len
        have : ([m] : List Nat).length = 1 := rfl
        omega
      rw [pre, es, List.append_assoc, List.map_append] at ct
      have below : ∀ j ∈ lvR P 0 m, I 1388 (j : Int) + wdN S x j ≤ I 1388 (m : Int) := fun j hj => by
        have := Ct_lt (l1 := (lvR P 0 m).map (fun j : Nat => ((j : Int), I 1388 (j : Int)))) ct _ (List.mem_map_of_mem hj)
        have w : I 1388 (j : Int) + wdN S x ((j : Int)).toNat ≤ I 1388 (m : Int) := this
        rw [Int.toNat_natCast] at w
        exact w
      rw [dlL_yes ⟨by rw [o7]; exact (pm.mp y).1, fun z => (pm.mp y).2 (qb.mp z), by rw [c4]; omega⟩, es]
      generalize dlL I q m = D at *
      have t1 : dlT D q m = dlT I q m := by unfold dlT; rw [o3, o4]
      have t2 : dlB D q m = dlB I q m := by unfold dlB; rw [o3]
      have t3 : dlV D = dlV I := by funext b t c; unfold dlV; rw [ob]
      obtain ⟨rv, hrv⟩ : ∃ rv, (if D (q + 3) m = 0 then D 1385 (dlT D q m) else 10) = rv := ⟨_, rfl⟩
      have u0 : ∀ o z, o ≠ 1390 → o ≠ 1391 → up2 (up2 D 1390 (D 1384 4) rv) 1391 (D 1384 4) (dlB D q m) o z = D o z := fun o z g1 g2 => (up2_o _ _ _ _ g2).trans (up2_o _ _ _ _ g1)
      have w5 : (D (q + 5) m).toNat = wdN S x m := by
        rw [o5, hw m (by omega), Int.toNat_natCast]
      refine ⟨?_, fun i j hyp => ?_⟩
      · rw [dlO_n, c4, List.length_append]
        have : ([m] : List Nat).length = 1 := rfl
        omega
      · unfold dlO
        rw [hrv, up2_o _ _ _ _ (by decide), up2_o _ _ _ _ (by decide), dcE_o (by decide) (by decide), dcE_o (by decide) (by decide), w5, o8]
        by_cases il : i < (lvR P 0 m).length
        · rw [List.getElem?_append_left il] at hyp
          obtain ⟨b1, b2, b3⟩ := cl i j hyp
          have hb := below j (List.mem_of_getElem? hyp)
          rw [up2_o _ _ _ _ (by decide), up2_k _ _ _ _ (by rw [c4]; omega), up2_k _ _ _ _ (by rw [c4]; omega), up2_o _ _ _ _ (by decide)]
          refine ⟨b1, b2, fun c h0 h1 => ?_⟩
          rw [up2_o _ _ _ _ (by decide), up2_o _ _ _ _ (by decide), dcE_2, dcE_3, if_neg (by omega), if_neg (by omega), u0 1392 _ (by decide) (by decide), u0 1393 _ (by decide) (by decide)]
          exact b3 c h0 h1
        · have ei : i = (lvR P 0 m).length := by
            have := (List.getElem?_eq_some_iff.mp hyp).1
            rw [List.length_append] at this
            have : ([m] : List Nat).length = 1 := rfl
            omega
          rw [ei, List.getElem?_append_right (Nat.le_refl _), Nat.sub_self] at hyp
          have ej : m = j := Option.some.inj hyp
          rw [← ej, ei, up2_o _ _ _ _ (by decide), ← c4, up2_eq, up2_eq]
          refine ⟨?_, t2, fun c h0 h1 => ?_⟩
          · rw [← hrv]
            unfold dlR
            rw [o3, oa, t1]
          · rw [up2_o _ _ _ _ (by decide), up2_o _ _ _ _ (by decide), dcE_2, dcE_3, if_pos (by omega), if_pos (by omega), show I 1388 (m : Int) + c - I 1388 (m : Int) = c by omega, t1, t2]
            refine ⟨rfl, ?_⟩
            unfold dlV
            rw [ob]
    · have es : lvR P 0 (m + 1) = lvR P 0 m := lvR_no (by rw [Nat.zero_add]; exact y)
      rw [es, dlL_no (fun z => y (pm.mpr ⟨by have := z.1; rw [o7] at this; exact this, fun w => z.2.1 (qb.mpr w)⟩))]
      exact ⟨c4, cl⟩
end
