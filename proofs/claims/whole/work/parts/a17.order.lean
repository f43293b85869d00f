section
variable {K : KT} {P : PT} {J I : IT}
def idsL (m : Nat) : List Int := (List.range m).map (fun k : Nat => (k : Int))
/-- places of one block of S rise -/
def SBk (I T : IT) (c w a S n : Nat) : Prop := ∀ i j : Nat, i < j → j < n → i / S = j / S → rle (rwN I c w (T a i)) (rwN I c w (T a j))
def OrI (I T : IT) (c w o s S m : Nat) : Prop := (∀ q, q ≠ o → q ≠ s → T q = I q) ∧ (rowAt T o 0 m).Perm (idsL m) ∧ SBk I T c w o S m
def OrN (I T0 T : IT) (c w o s S m E : Nat) : Prop := (∀ q, q ≠ s → T q = T0 q) ∧ (rowAt T s 0 E).Perm (rowAt T0 o 0 E) ∧ SBk I T c w s (2 * S) E
theorem rwN_of {S : IT} {c w : Nat} (h : S c = I c) (i : Int) : rwN S c w i = rwN I c w i := rowAt_congr (fun q _ _ => by rw [h])
theorem row_get {T : IT} {a n j : Nat} {b : Int} (hj : j < n) : (rowAt T a b n)[j]? = some (T a (b + j)) := by
  unfold rowAt
  rw [List.getElem?_map, List.getElem?_range hj]; rfl
theorem or_id {T : IT} {o m : Nat} (h : (rowAt T o 0 m).Perm (idsL m)) : ∀ j : Nat, j < m → ∃ i : Nat, T o j = i ∧ i < m := by
  intro j hj
  have h1 := List.mem_of_getElem? (row_get (T := T) (a := o) (b := 0) hj)
  have h2 := h.mem_iff.mp h1
  obtain ⟨i, hi, e⟩ := List.mem_map.1 h2
  exact ⟨i, by rw [Int.zero_add] at e; exact e.symm, List.mem_range.1 hi⟩
theorem row_pair {T : IT} {a n : Nat} {b : Int} {Q : Int → Int → Prop} (h : (rowAt T a b n).Pairwise Q) {i j : Nat} (hij : i < j) (hj : j < n) : Q (T a (b + i)) (T a (b + j)) := by
  have h1 := row_get (T := T) (a := a) (b := b) (n := n) (j := i) (by omega)
  have h2 := row_get (T := T) (a := a) (b := b) (n := n) (j := j) hj
  obtain ⟨l1, g1⟩ := List.getElem?_eq_some_iff.mp h1
  obtain ⟨l2, g2⟩ := List.getElem?_eq_some_iff.mp h2
  have := List.pairwise_iff_getElem.mp h i j l1 l2 hij
  rw [g1, g2] at this
  exact this
/-- a merge more -/
theorem OrN.step {T0 T T2 : IT} {c w o s S m b mid e : Nat} (hS : 1 ≤ S) (hne : o ≠ s) (hsc : c ≠ s ∧ c ≠ o) (h0 : OrI I T0 c w o s S m) (h : OrN I T0 T c w o s S m (2 * S * b)) (hf : 2 * S * b < m) (hm : mid = min (2 * S * b + S) m) (he : e = min (2 * S * b + 2 * S) m) (h2 : MgI T T2 c w o s (2 * S * b) mid e (mid - 2 * S * b) (e - mid)) : OrN I T0 T2 c w o s S m e := by
  obtain ⟨n1, n2, n3⟩ := h
  obtain ⟨-, g1, g2, -, g4⟩ := h2
  generalize hF : 2 * S * b = f at *
  have el : mid - f + (e - mid) = e - f := by omega
  rw [el] at g1 g2
  have eo : T o = T0 o := n1 o hne
  have ec : T c = I c := (n1 c hsc.1).trans (h0.1 c hsc.2 hsc.1)
  have es : ∀ z : Int, z < f ∨ (e : Int) ≤ z → T2 s z = T s z := fun z hz => g4 s z (Or.inr hz)
  refine ⟨fun q hq => (funext (fun z => g4 q z (Or.inl hq))).trans (n1 q hq), ?_, ?_⟩
  · rw [show e = f + (e - f) by omega, rowAt_add, rowAt_add]
    refine List.Perm.append ?_ ?_
    · rw [rowAt_congr (I := T) (S := T2) (a' := s) (a := s) (b := 0) (b' := 0) (w := f) (fun q q0 q1 => es _ (Or.inl (by omega)))]
      exact n2
    · rw [Int.zero_add]
      refine g1.trans ?_
      rw [show (mid : Int) = (f : Int) + ((mid - f : Nat) : Int) by omega, ← rowAt_add, el, rowAt_congr (I := T0) (S := T) (a' := o) (a := o) (b := (f : Int)) (b' := (f : Int)) (fun q _ _ => by rw [eo])]
  · intro i j hij hj hd
    by_cases hjf : j < f
    · rw [es i (Or.inl (by omega)), es j (Or.inl (by omega))]
      exact n3 i j hij hjf hd
    · have hD : 0 < 2 * S := by omega
      have j1 : b ≤ j / (2 * S) := (Nat.le_div_iff_mul_le hD).mpr (by rw [Nat.mul_comm]; omega)
      have i1 : f ≤ i := by
        refine Classical.byContradiction (fun z => ?_)
        have : i / (2 * S) < b := (Nat.div_lt_iff_lt_mul hD).mpr (by rw [Nat.mul_comm]; omega)
        omega
      have p := row_pair g2 (i := i - f) (j := j - f) (by omega) (by omega)
      rw [show (f : Int) + ((i - f : Nat) : Int) = i by omega, show (f : Int) + ((j - f : Nat) : Int) = j by omega, rwN_of ec, rwN_of ec] at p
      exact p
theorem OrI.runs {T0 T : IT} {c w o s S m b mid e E : Nat} (hS : 1 ≤ S) (hne : o ≠ s) (hsc : c ≠ s ∧ c ≠ o) (h0 : OrI I T0 c w o s S m) (h : OrN I T0 T c w o s S m E) (hm : mid = min (2 * S * b + S) m) (he : e = min (2 * S * b + 2 * S) m) : MgS T c w o (2 * S * b) mid e := by
  have eo : T o = T0 o := h.1 o hne
  have ec : T c = I c := (h.1 c hsc.1).trans (h0.1 c hsc.2 hsc.1)
  have dv : ∀ x : Nat, 2 * S * b ≤ x → x < 2 * S * b + S → x / S = 2 * b := fun x h1 h2 => by
    have a : 2 * b ≤ x / S := (Nat.le_div_iff_mul_le hS).mpr (by rw [Nat.mul_right_comm]; exact h1)
    have a2 : x / S < 2 * b + 1 := (Nat.div_lt_iff_lt_mul hS).mpr (by rw [Nat.add_mul, Nat.one_mul, Nat.mul_right_comm]; exact h2)
    omega
  have dv2 : ∀ x : Nat, 2 * S * b + S ≤ x → x < 2 * S * b + 2 * S → x / S = 2 * b + 1 := fun x h1 h2 => by
    have a : 2 * b + 1 ≤ x / S := (Nat.le_div_iff_mul_le hS).mpr (by rw [Nat.add_mul, Nat.one_mul, Nat.mul_right_comm]; exact h1)
    have a2 : x / S < 2 * b + 2 := (Nat.div_lt_iff_lt_mul hS).mpr (by rw [Nat.add_mul, Nat.mul_right_comm]; exact h2)
    omega
  generalize hF : 2 * S * b = f at *
  refine ⟨fun i j hij hj => ?_, fun i j hij hj => ?_⟩
  · have q := h0.2.2 (f + i) (f + j) (by omega) (by omega) (by rw [dv _ (by omega) (by omega), dv _ (by omega) (by omega)])
    rw [rwN_of ec, rwN_of ec, eo, show (f : Int) + (i : Int) = ((f + i : Nat) : Int) by omega, show (f : Int) + (j : Int) = ((f + j : Nat) : Int) by omega]
    exact q
  · have q := h0.2.2 (mid + i) (mid + j) (by omega) (by omega) (by rw [dv2 _ (by omega) (by omega), dv2 _ (by omega) (by omega)])
    rw [rwN_of ec, rwN_of ec, eo, show (mid : Int) + (i : Int) = ((mid + i : Nat) : Int) by omega, show (mid : Int) + (j : Int) = ((mid + j : Nat) : Int) by omega]
    exact q
theorem OrN.done {T0 T : IT} {c w o s S m : Nat} (hne : o ≠ s) (h0 : OrI I T0 c w o s S m) (h : OrN I T0 T c w o s S m m) : OrI I (cpyI T s 0 o 0 m) c w o s (2 * S) m := by
  have eo : ∀ j : Nat, j < m → cpyI T s 0 o 0 m o j = T s j := fun j hj => by
    rw [cpyI_in (by omega) (by omega)]
    congr 1; omega
  refine ⟨fun q q1 q2 => (funext (fun z => if_neg (fun y => q1 y.1))).trans ((h.1 q q2).trans (h0.1 q q1 q2)), ?_, fun i j hij hj hd => ?_⟩
  · rw [rowAt_cpy]
    exact h.2.1.trans h0.2.1
  · rw [eo i (by omega), eo j hj]
    exact h.2.2 i j hij hj hd
theorem sp_Relation_orderInto {d c o s w m : Nat} (hG : ReW K P d c 5120) (hO : K o = some (100, 512)) (hS : K s = some (100, 512)) (hne : o ≠ s) (hsc : c ≠ s ∧ c ≠ o) (hw : I d 2 = w ∧ w ≤ 10) (hm : I d 1 = m ∧ m ≤ 512) : Sp m_Relation_orderInto false (rmv 4 200) (exU K P J (.inl none) (fun T => (∀ q, q ≠ o → q ≠ s → T q = I q) ∧ (rowAt T o 0 m).Perm (idsL m) ∧ ∀ i j : Nat, i < j → j < m → rle (rwN I c w (T o i)) (rwN I c w (T o j)))) K P J I [vR (some d), vR (some o), vR (some s)] := by
  refine Sp.ofV (by decide) (Or.inr rfl) rfl ?_
  have nd : d ≠ s := fun z => by have := hG.1.symm.trans (z ▸ hS); cases this
  have nd2 : d ≠ o := fun z => by have := hG.1.symm.trans (z ▸ hO); cases this
  have outer : ∀ (l S : Nat) (T : IT), 1 ≤ S → m ≤ S + l → S ≤ 1024 → OrI I T c w o s S m → VW m_Relation_orderInto false (rmv 4 200) (exU K P J (.inl none) (fun T => (∀ q, q ≠ o → q ≠ s → T q = I q) ∧ (rowAt T o 0 m).Perm (idsL m) ∧ ∀ i j : Nat, i < j → j < m → rle (rwN I c w (T o i)) (rwN I c w (T o j)))) K P J T 0 0 22 [(0, vR (some d)), (1, vR (some o)), (2, vR (some s)), (3, vI (S : Int))] [] := by
    intro l
    induction l with
    | zero =>
      intro S T hS1 hl hSb h
      have td1 : T d 1 = m := (congrFun (h.1 d nd2 nd) 1).trans hm.1
      have fin : ∀ i j : Nat, i < j → j < m → rle (rwN I c w (T o i)) (rwN I c w (T o j)) := fun i j hij hj => h.2.2 i j hij hj (by rw [Nat.div_eq_of_lt (by omega), Nat.div_eq_of_lt (by omega)])
      refine VW.iload_n (pc' := 23) d_Relation_orderInto_22 rfl rfl ?_
      refine VW.aload_n (pc' := 24) d_Relation_orderInto_23 rfl rfl ?_
      refine VW.gI (ci := 5) (T := T5) (N := 3) (k := 1) (k' := 1) (pc' := 27) d_Relation_orderInto_24 rfl lk_Relation_15 in5 rfl rfl rfl rfl (by first | exact hG.1 | exact hO | exact hS | assumption) (by first | exact td1 | rfl) ?_
      refine VW.icmp_ge (tgt := 103) (pc' := 30) d_Relation_orderInto_27 rfl rfl (fun c27 => ?_) (fun c27 => ?_)
      · exact VW.vret d_Relation_orderInto_103 rfl (Nat.zero_le _) (Nat.zero_le _) (⟨rfl, rfl, rfl, rfl, h.1, h.2.1, fin⟩)
      · exfalso; omega
    | succ l ih =>
      intro S T hS1 hl hSb h
      have td1 : T d 1 = m := (congrFun (h.1 d nd2 nd) 1).trans hm.1
      by_cases hSm : m ≤ S
      · have fin : ∀ i j : Nat, i < j → j < m → rle (rwN I c w (T o i)) (rwN I c w (T o j)) := fun i j hij hj => h.2.2 i j hij hj (by rw [Nat.div_eq_of_lt (by omega), Nat.div_eq_of_lt (by omega)])
        clear ih
        refine VW.iload_n (pc' := 23) d_Relation_orderInto_22 rfl rfl ?_
        refine VW.aload_n (pc' := 24) d_Relation_orderInto_23 rfl rfl ?_
        refine VW.gI (ci := 5) (T := T5) (N := 3) (k := 1) (k' := 1) (pc' := 27) d_Relation_orderInto_24 rfl lk_Relation_15 in5 rfl rfl rfl rfl (by first | exact hG.1 | exact hO | exact hS | assumption) (by first | exact td1 | rfl) ?_
        refine VW.icmp_ge (tgt := 103) (pc' := 30) d_Relation_orderInto_27 rfl rfl (fun c27 => ?_) (fun c27 => ?_)
        · exact VW.vret d_Relation_orderInto_103 rfl (Nat.zero_le _) (Nat.zero_le _) (⟨rfl, rfl, rfl, rfl, h.1, h.2.1, fin⟩)
        · exfalso; omega
      · have nx := fun (T' : IT) (g : OrN I T T' c w o s S m m) => ih (2 * S) _ (by omega) (by omega) (by omega) (OrN.done hne h g)
        rw [show ((2 * S : Nat) : Int) = (S : Int) * 2 by omega] at nx
        clear ih
        have inner : ∀ (l2 b : Nat) (T' : IT), m ≤ 2 * S * b + l2 → 2 * S * b ≤ 3000 → OrN I T T' c w o s S m (min (2 * S * b) m) → VW m_Relation_orderInto false (rmv 4 200) (exU K P J (.inl none) (fun T => (∀ q, q ≠ o → q ≠ s → T q = I q) ∧ (rowAt T o 0 m).Perm (idsL m) ∧ ∀ i j : Nat, i < j → j < m → rle (rwN I c w (T o i)) (rwN I c w (T o j)))) K P J T' 0 0 33 [(0, vR (some d)), (1, vR (some o)), (2, vR (some s)), (3, vI (S : Int)), (4, vI ((2 * S * b : Nat) : Int))] [] := by
          intro l2
          induction l2 with
          | zero =>
            intro b T' hl2 hb g
            rw [show min (2 * S * b) m = m by omega] at g
            have td1 : T' d 1 = m := (congrFun (g.1 d nd) 1).trans td1
            have n9 := nx T' g
            generalize 2 * S * b = f at *
            refine VW.iload (pc' := 35) d_Relation_orderInto_33 rfl rfl ?_
            refine VW.aload_n (pc' := 36) d_Relation_orderInto_35 rfl rfl ?_
            refine VW.gI (ci := 5) (T := T5) (N := 3) (k := 1) (k' := 1) (pc' := 39) d_Relation_orderInto_36 rfl lk_Relation_15 in5 rfl rfl rfl rfl (by first | exact hG.1 | exact hO | exact hS | assumption) (by first | exact td1 | rfl) ?_
            refine VW.icmp_ge (tgt := 85) (pc' := 42) d_Relation_orderInto_39 rfl rfl (fun c39 => ?_) (fun c39 => ?_)
            · refine VW.aload_n (pc' := 86) d_Relation_orderInto_85 rfl rfl ?_
              refine VW.iconst (pc' := 87) d_Relation_orderInto_86 rfl (by decide) ?_
              refine VW.aload_n (pc' := 88) d_Relation_orderInto_87 rfl rfl ?_
              refine VW.iconst (pc' := 89) d_Relation_orderInto_88 rfl (by decide) ?_
              refine VW.aload_n (pc' := 90) d_Relation_orderInto_89 rfl rfl ?_
              refine VW.gI (ci := 5) (T := T5) (N := 3) (k := 1) (k' := 1) (pc' := 93) d_Relation_orderInto_90 rfl lk_Relation_15 in5 rfl rfl rfl rfl (by first | exact hG.1 | exact hO | exact hS | assumption) (by first | exact td1 | rfl) ?_
              refine VW.copyi (pc' := 96) d_Relation_orderInto_93 rfl lk_Relation_22 hS hO (by omega) (by omega) (by omega) (by omega) (by omega) rfl rfl ?_
              refine VW.iload_n (pc' := 97) d_Relation_orderInto_96 rfl rfl ?_
              refine VW.iconst (pc' := 98) d_Relation_orderInto_97 rfl (by decide) ?_
              refine VW.imul (pc' := 99) d_Relation_orderInto_98 rfl (by omega) ?_
              refine VW.istore_n (pc' := 100) d_Relation_orderInto_99 rfl rfl ?_
              refine VW.goto (pc' := 22) d_Relation_orderInto_100 rfl ?_
              refine VW.pick [0, 1, 2, 3] ?_
              exact n9
            · exfalso; omega
          | succ l2 ih2 =>
            intro b T' hl2 hb g
            have td1' : T' d 1 = m := (congrFun (g.1 d nd) 1).trans td1
            have td2 : T' d 2 = w := (congrFun ((g.1 d nd).trans (h.1 d nd2 nd)) 2).trans hw.1
            by_cases hfm : m ≤ 2 * S * b
            · rw [show min (2 * S * b) m = m by omega] at g
              have n9 := nx T' g
              clear ih2
              generalize 2 * S * b = f at *
              refine VW.iload (pc' := 35) d_Relation_orderInto_33 rfl rfl ?_
              refine VW.aload_n (pc' := 36) d_Relation_orderInto_35 rfl rfl ?_
              refine VW.gI (ci := 5) (T := T5) (N := 3) (k := 1) (k' := 1) (pc' := 39) d_Relation_orderInto_36 rfl lk_Relation_15 in5 rfl rfl rfl rfl (by first | exact hG.1 | exact hO | exact hS | assumption) (by first | exact td1' | rfl) ?_
              refine VW.icmp_ge (tgt := 85) (pc' := 42) d_Relation_orderInto_39 rfl rfl (fun c39 => ?_) (fun c39 => ?_)
              · refine VW.aload_n (pc' := 86) d_Relation_orderInto_85 rfl rfl ?_
                refine VW.iconst (pc' := 87) d_Relation_orderInto_86 rfl (by decide) ?_
                refine VW.aload_n (pc' := 88) d_Relation_orderInto_87 rfl rfl ?_
                refine VW.iconst (pc' := 89) d_Relation_orderInto_88 rfl (by decide) ?_
                refine VW.aload_n (pc' := 90) d_Relation_orderInto_89 rfl rfl ?_
                refine VW.gI (ci := 5) (T := T5) (N := 3) (k := 1) (k' := 1) (pc' := 93) d_Relation_orderInto_90 rfl lk_Relation_15 in5 rfl rfl rfl rfl (by first | exact hG.1 | exact hO | exact hS | assumption) (by first | exact td1' | rfl) ?_
                refine VW.copyi (pc' := 96) d_Relation_orderInto_93 rfl lk_Relation_22 hS hO (by omega) (by omega) (by omega) (by omega) (by omega) rfl rfl ?_
                refine VW.iload_n (pc' := 97) d_Relation_orderInto_96 rfl rfl ?_
                refine VW.iconst (pc' := 98) d_Relation_orderInto_97 rfl (by decide) ?_
                refine VW.imul (pc' := 99) d_Relation_orderInto_98 rfl (by omega) ?_
                refine VW.istore_n (pc' := 100) d_Relation_orderInto_99 rfl rfl ?_
                refine VW.goto (pc' := 22) d_Relation_orderInto_100 rfl ?_
                refine VW.pick [0, 1, 2, 3] ?_
                exact n9
              · exfalso; omega
            · rw [show min (2 * S * b) m = 2 * S * b by omega] at g
              have hid : ∀ j : Nat, j < m → ∃ i : Nat, T' o j = i ∧ i < 512 := fun j hj => by
                obtain ⟨i, h1, h2⟩ := or_id h.2.1 j hj
                exact ⟨i, by rw [g.1 o hne]; exact h1, by omega⟩
              have ru := OrI.runs (b := b) hS1 hne hsc h g rfl rfl
              have st := fun (T2 : IT) g2 => OrN.step (T2 := T2) (b := b) hS1 hne hsc h g (by omega) rfl rfl g2
              have n2 : 2 * S * (b + 1) = 2 * S * b + 2 * S := Nat.mul_succ _ _
              have nx2 := fun (T2 : IT) (g2 : OrN I T T2 c w o s S m (min (2 * S * b + 2 * S) m)) => ih2 (b + 1) T2 (by rw [n2]; omega) (by rw [n2]; omega) (by rw [n2]; exact g2)
              rw [n2] at nx2
              clear ih2 nx
              generalize 2 * S * b = f at *
              have e1 : (if (m : Int) < (f : Int) + (S : Int) then (m : Int) else (f : Int) + (S : Int)) = ((min (f + S) m : Nat) : Int) := by split <;> omega
              have e2 : (if (m : Int) < (f : Int) + 2 * (S : Int) then (m : Int) else (f : Int) + 2 * (S : Int)) = ((min (f + 2 * S) m : Nat) : Int) := by split <;> omega
              have e3 : ((f + 2 * S : Nat) : Int) = (f : Int) + 2 * (S : Int) := by omega
              rw [e3] at nx2
              refine VW.iload (pc' := 35) d_Relation_orderInto_33 rfl rfl ?_
              refine VW.aload_n (pc' := 36) d_Relation_orderInto_35 rfl rfl ?_
              refine VW.gI (ci := 5) (T := T5) (N := 3) (k := 1) (k' := 1) (pc' := 39) d_Relation_orderInto_36 rfl lk_Relation_15 in5 rfl rfl rfl rfl (by first | exact hG.1 | exact hO | exact hS | assumption) (by first | exact td1' | rfl) ?_
              refine VW.icmp_ge (tgt := 85) (pc' := 42) d_Relation_orderInto_39 rfl rfl (fun c39 => ?_) (fun c39 => ?_)
              · exfalso; omega
              · refine VW.aload_n (pc' := 43) d_Relation_orderInto_42 rfl rfl ?_
                refine VW.aload_n (pc' := 44) d_Relation_orderInto_43 rfl rfl ?_
                refine VW.aload_n (pc' := 45) d_Relation_orderInto_44 rfl rfl ?_
                refine VW.iload (pc' := 47) d_Relation_orderInto_45 rfl rfl ?_
                refine VW.iload (pc' := 49) d_Relation_orderInto_47 rfl rfl ?_
                refine VW.iload_n (pc' := 50) d_Relation_orderInto_49 rfl rfl ?_
                refine VW.iadd (pc' := 51) d_Relation_orderInto_50 rfl (by omega) ?_
                refine VW.aload_n (pc' := 52) d_Relation_orderInto_51 rfl rfl ?_
                refine VW.gI (ci := 5) (T := T5) (N := 3) (k := 1) (k' := 1) (pc' := 55) d_Relation_orderInto_52 rfl lk_Relation_15 in5 rfl rfl rfl rfl (by first | exact hG.1 | exact hO | exact hS | assumption) (by first | exact td1' | rfl) ?_
                refine VW.mm (pc' := 58) false rfl d_Relation_orderInto_55 rfl lk_Relation_61 rfl rfl (Nat.zero_le _) (Nat.zero_le _) ?_
                rw [if_neg (show ¬ false = true by decide), e1]
                refine VW.iload (pc' := 60) d_Relation_orderInto_58 rfl rfl ?_
                refine VW.iconst (pc' := 61) d_Relation_orderInto_60 rfl (by decide) ?_
                refine VW.iload_n (pc' := 62) d_Relation_orderInto_61 rfl rfl ?_
                refine VW.imul (pc' := 63) d_Relation_orderInto_62 rfl (by omega) ?_
                refine VW.iadd (pc' := 64) d_Relation_orderInto_63 rfl (by omega) ?_
                refine VW.aload_n (pc' := 65) d_Relation_orderInto_64 rfl rfl ?_
                refine VW.gI (ci := 5) (T := T5) (N := 3) (k := 1) (k' := 1) (pc' := 68) d_Relation_orderInto_65 rfl lk_Relation_15 in5 rfl rfl rfl rfl (by first | exact hG.1 | exact hO | exact hS | assumption) (by first | exact td1' | rfl) ?_
                refine VW.mm (pc' := 71) false rfl d_Relation_orderInto_68 rfl lk_Relation_61 rfl rfl (Nat.zero_le _) (Nat.zero_le _) ?_
                rw [if_neg (show ¬ false = true by decide), e2]
                refine VW.cVu (ci := 5) (T := T5) (N := 3) (pc' := 74) d_Relation_orderInto_71 rfl mv_Relation_merge lk_Relation_66 rfl (by first | exact hG.1 | exact hO | exact hS | assumption) rfl rfl rfl (Nat.le_refl _) (Nat.le_refl _) (sp_Relation_merge hG hO hS ⟨hne, hsc.1⟩ ⟨td2, hw.2⟩ ⟨hm.2, (by omega : min (f + 2 * S) m ≤ m)⟩ ⟨by omega, by omega⟩ hid ru) rfl rfl (fun T2 g2 => ?_)
                refine VW.iload (pc' := 76) d_Relation_orderInto_74 rfl rfl ?_
                refine VW.iconst (pc' := 77) d_Relation_orderInto_76 rfl (by decide) ?_
                refine VW.iload_n (pc' := 78) d_Relation_orderInto_77 rfl rfl ?_
                refine VW.imul (pc' := 79) d_Relation_orderInto_78 rfl (by omega) ?_
                refine VW.iadd (pc' := 80) d_Relation_orderInto_79 rfl (by omega) ?_
                refine VW.istore (pc' := 82) d_Relation_orderInto_80 rfl rfl ?_
                refine VW.goto (pc' := 33) d_Relation_orderInto_82 rfl ?_
                refine VW.pick [0, 1, 2, 3, 4] ?_
                exact nx2 T2 (st T2 g2)
        have s0 : SBk I T c w s (2 * S) 0 := fun i j _ hj => by omega
        have l9 := inner m 0 T (by omega) (by omega) (by
          rw [Nat.mul_zero, Nat.zero_min]
          exact ⟨fun _ _ => rfl, List.Perm.refl _, s0⟩)
        rw [Nat.mul_zero] at l9
        clear inner nx
        refine VW.iload_n (pc' := 23) d_Relation_orderInto_22 rfl rfl ?_
        refine VW.aload_n (pc' := 24) d_Relation_orderInto_23 rfl rfl ?_
        refine VW.gI (ci := 5) (T := T5) (N := 3) (k := 1) (k' := 1) (pc' := 27) d_Relation_orderInto_24 rfl lk_Relation_15 in5 rfl rfl rfl rfl (by first | exact hG.1 | exact hO | exact hS | assumption) (by first | exact td1 | rfl) ?_
        refine VW.icmp_ge (tgt := 103) (pc' := 30) d_Relation_orderInto_27 rfl rfl (fun c27 => ?_) (fun c27 => ?_)
        · exfalso; omega
        · refine VW.iconst (pc' := 31) d_Relation_orderInto_30 rfl (by decide) ?_
          refine VW.istore (pc' := 33) d_Relation_orderInto_31 rfl rfl ?_
          refine VW.pick [0, 1, 2, 3, 4] ?_
          exact l9
  have loop : ∀ (l j : Nat) (T : IT), j + l = m → (∀ q, q ≠ o → T q = I q) → (∀ i : Nat, i < j → T o i = i) → VW m_Relation_orderInto false (rmv 4 200) (exU K P J (.inl none) (fun T => (∀ q, q ≠ o → q ≠ s → T q = I q) ∧ (rowAt T o 0 m).Perm (idsL m) ∧ ∀ i j : Nat, i < j → j < m → rle (rwN I c w (T o i)) (rwN I c w (T o j)))) K P J T 0 0 2 [(0, vR (some d)), (1, vR (some o)), (2, vR (some s)), (3, vI (j : Int))] [] := by
    intro l
    induction l with
    | zero =>
      intro j T hj h1 h2
      have ej : j = m := by omega
      subst ej
      have td1 : T d 1 = j := (congrFun (h1 d nd2) 1).trans hm.1
      have l9 := outer j 1 T (by omega) (by omega) (by omega) ⟨fun q q1 _ => h1 q q1, by
        have e : rowAt T o 0 j = idsL j := by
          unfold rowAt idsL
          apply List.map_congr_left
          intro i hi
          rw [Int.zero_add]
          exact h2 i (List.mem_range.1 hi)
        rw [e], fun i k hik _ hd => by rw [Nat.div_one, Nat.div_one] at hd; omega⟩
      refine VW.iload_n (pc' := 3) d_Relation_orderInto_2 rfl rfl ?_
      refine VW.aload_n (pc' := 4) d_Relation_orderInto_3 rfl rfl ?_
      refine VW.gI (ci := 5) (T := T5) (N := 3) (k := 1) (k' := 1) (pc' := 7) d_Relation_orderInto_4 rfl lk_Relation_15 in5 rfl rfl rfl rfl (by first | exact hG.1 | exact hO | exact hS | assumption) (by first | exact td1 | rfl) ?_
      refine VW.icmp_ge (tgt := 20) (pc' := 10) d_Relation_orderInto_7 rfl rfl (fun c7 => ?_) (fun c7 => ?_)
      · refine VW.iconst (pc' := 21) d_Relation_orderInto_20 rfl (by decide) ?_
        refine VW.istore_n (pc' := 22) d_Relation_orderInto_21 rfl rfl ?_
        refine VW.pick [0, 1, 2, 3] ?_
        exact l9
      · exfalso; omega
    | succ l ih =>
      intro j T hj h1 h2
      have td1 : T d 1 = m := (congrFun (h1 d nd2) 1).trans hm.1
      have n9 := ih (j + 1) (up2 T o j j) (by omega) (fun q hq => (funext (fun z => up2_o _ _ _ _ hq)).trans (h1 q hq)) (fun i hi => by
        by_cases e : i = j
        · rw [e, up2_eq]
        · rw [up2_k _ _ _ _ (by omega)]; exact h2 i (by omega))
      rw [show ((j + 1 : Nat) : Int) = (j : Int) + 1 by omega] at n9
      clear ih outer
      refine VW.iload_n (pc' := 3) d_Relation_orderInto_2 rfl rfl ?_
      refine VW.aload_n (pc' := 4) d_Relation_orderInto_3 rfl rfl ?_
      refine VW.gI (ci := 5) (T := T5) (N := 3) (k := 1) (k' := 1) (pc' := 7) d_Relation_orderInto_4 rfl lk_Relation_15 in5 rfl rfl rfl rfl (by first | exact hG.1 | exact hO | exact hS | assumption) (by first | exact td1 | rfl) ?_
      refine VW.icmp_ge (tgt := 20) (pc' := 10) d_Relation_orderInto_7 rfl rfl (fun c7 => ?_) (fun c7 => ?_)
      · exfalso; omega
      · refine VW.aload_n (pc' := 11) d_Relation_orderInto_10 rfl rfl ?_
        refine VW.iload_n (pc' := 12) d_Relation_orderInto_11 rfl rfl ?_
        refine VW.iload_n (pc' := 13) d_Relation_orderInto_12 rfl rfl ?_
        refine VW.iast (pc' := 14) d_Relation_orderInto_13 rfl (by first | exact hG.1 | exact hO | exact hS | assumption) (by omega) (by omega) ?_
        refine VW.iinc (pc' := 17) d_Relation_orderInto_14 rfl rfl rfl (by omega) ?_
        refine VW.goto (pc' := 2) d_Relation_orderInto_17 rfl ?_
        refine VW.pick [0, 1, 2, 3] ?_
        exact n9
  have l := loop m 0 I (by omega) (fun _ _ => rfl) (fun i hi => by omega)
  clear loop outer
  refine VW.iconst (pc' := 1) d_Relation_orderInto_0 rfl (by decide) ?_
  refine VW.istore_n (pc' := 2) d_Relation_orderInto_1 rfl rfl ?_
  refine VW.pick [0, 1, 2, 3] ?_
  exact l
end
