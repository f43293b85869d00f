section
variable {K : KT} {P : PT} {J I : IT} {Q : PQ}
theorem bI_or {p q : Prop} {v : Int} (h : v = bI p) : bI (v = 1 ∨ q) = bI (p ∨ q) := by
  rw [h]
  rcases Classical.em p with z | z
  · rw [bI1 z]; exact bIc ⟨fun _ => Or.inl z, fun _ => Or.inl rfl⟩
  · rw [bI0 z]; exact bIc ⟨fun y => y.elim (fun q => by omega) Or.inr, fun y => y.elim (fun q => absurd q z) Or.inr⟩
theorem bI_or0 {p q : Prop} {v : Int} (h : v = bI p) (hq : ¬ q) : v = bI (p ∨ q) := by
  rw [h]
  exact bIc ⟨Or.inl, fun y => y.elim id (fun z => absurd z hq)⟩
theorem EvI.g {T : IT} {s y x : Int} {k : Nat} (h : EvI I T s y x k) (o : Nat) (q : Int) (h1 : o < 270) (h2 : o ≠ 100) : T o q = I o q := h.1 o q (by omega) (by omega) (by omega) (by omega) (fun z => h2 z.1)
theorem EvI.mb {T : IT} {s y x : Int} {k : Nat} (h : EvI I T s y x k) (hb : MB I) : MB T :=
  hb.of (h.1 100 0 (by decide) (by decide) (by decide) (by decide) (by omega)) (h.1 100 8 (by decide) (by decide) (by decide) (by decide) (by omega)) (h.1 100 19 (by decide) (by decide) (by decide) (by decide) (by omega)) (fun k => h.g 201 k (by decide) (by decide)) (fun k => h.g 202 k (by decide) (by decide)) (fun k => h.g 206 k (by decide) (by decide)) (fun k => h.g 211 k (by decide) (by decide)) (fun k => by rw [h.g 214 k (by decide) (by decide)]; exact hb.row k) (fun k => h.g 223 k (by decide) (by decide)) (fun k => by rw [h.g 236 k (by decide) (by decide)]; exact hb.who k)
theorem noF {op A B : Int} {st : STK} (h : op ≠ 3) : ¬ ev1F op A B st := by
  rintro ⟨e, rest, -, z, -, h2⟩
  exact h h2.1
theorem ev_scans {T : IT} {s y x : Int} {k : Nat} (hM : MW K P) (hb : MB I) (h : EvI I T s y x k) (hok : okS (I 256 (x + k)) (I 257 (x + k)) (I 258 (x + k)) (I 259 (x + k)) (evK I s y x k)) (hB : stB (evK I s y x k)) (hB2 : stB (evK I s y x (k + 1))) (hL : (evK I s y x k).length ≤ 3) (hx : 0 ≤ x + (k : Int) ∧ x + (k : Int) < 252) (hs : 0 ≤ s ∧ s ≤ 4) (ho : (I 256 (x + k)) = 0) : ∃ φ : IT → Prop, Sp m_Model_scans false (rmv 2 49) (exU K P J (.inl none) φ) K P J T [vR (some 100), vI s, vI y, vI (I 257 (x + k))] ∧ ∀ U, φ U → EvI I U s y x (k + 1) := by
  have hbT := h.mb hb
  obtain ⟨hA, hl2⟩ := hok.1 ho
  obtain ⟨h1, h2, h3, h4⟩ := h
  have h : EvI I T s y x k := ⟨h1, h2, h3, h4⟩
  have a := stA_rg _ hB
  have tp := mTop_stk hB h2 h3
  have c0 := hb.col (I 257 (x + k))
  have r0 := hb.row (6 * s + I 257 (x + k))
  have c := sp_Model_scans (K := K) (P := P) (J := J) (I := T) (s := s) (y := y) (t := I 257 (x + k)) (r := (evK I s y x k).length) (w := (I 201 (I 257 (x + k))).toNat) (n := (I 214 (6 * s + I 257 (x + k))).toNat) hM hbT hs hA h3 (by omega) (by rw [h.g 201 _ (by decide) (by decide)]; omega) (by rw [h.g 214 _ (by decide) (by decide)]; omega) (by rw [tp]; omega) (fun hr => by
    rw [h3] at hr ⊢
    generalize evK I s y x k = st at *
    cases st with
    | nil => exact absurd rfl hr
    | cons e st =>
      have a2 := stA_rg _ hB.2
      have b := mulNN (w := (e.2.length : Int)) (k := (e.1 : Int)) (by omega) (by omega)
      have b2 := mulUp (w := (e.2.length : Int)) (k := (e.1 : Int)) (W := 512) (n := 10) (by omega) (by omega) (by have := hB.1.2; omega) (by have := hB.1.1; omega)
      rw [show (((e :: st : STK).length : Nat) : Int) - 1 = (st.length : Int) by show ((st.length + 1 : Nat) : Int) - 1 = _; omega, h2.1.1, h2.1.2.1, h2.1.2.2.1]
      have : (st.length : Int) ≤ 2 := by have : (e :: st : STK).length ≤ 3 := hL; simp at this; omega
      omega)
  rw [tp, scanK_of (I := I) (h.1 100 8 (by decide) (by decide) (by decide) (by decide) (by omega)) (fun o q q1 q2 => h.g o q (by omega) (by omega))] at c
  refine ⟨_, c, fun U hU => ?_⟩
  obtain ⟨⟨u1, u2, u3, u4, u5⟩, u6⟩ := hU
  have e1 : evK I s y x (k + 1) = scM I s y (I 257 (x + k)) :: evK I s y x k := ev1_0 ho
  refine ⟨fun o q o1 o2 o3 o4 o5 => (u6 o q (fun z => o1 z.1) (fun z => o3 z.1) (fun z => o2 z.1) (fun z => o4 z.1) (fun z => o5 ⟨z.1, Or.inl z.2⟩)).trans (h1 o q o1 o2 o3 o4 o5), ?_, ?_, ?_⟩
  · rw [e1]
    exact ⟨⟨u4, u3, u5, u2⟩, StkR.of _ hB h2 (fun o q hq => u6 o q (by omega) (by omega) (by omega) (by omega) (by omega))⟩
  · rw [e1, u1]; show _ = (((evK I s y x k).length + 1 : Nat) : Int); omega
  · rw [u6 100 75 (by omega) (by omega) (by omega) (by omega) (by omega)]
    exact bI_or0 h4 (noF (by omega))
theorem ev_filters {T : IT} {s y x : Int} {k : Nat} (hM : MW K P) (hb : MB I) (h : EvI I T s y x k) (hok : okS (I 256 (x + k)) (I 257 (x + k)) (I 258 (x + k)) (I 259 (x + k)) (evK I s y x k)) (hB : stB (evK I s y x k)) (hB2 : stB (evK I s y x (k + 1))) (hL : (evK I s y x k).length ≤ 3) (hx : 0 ≤ x + (k : Int) ∧ x + (k : Int) < 252) (ho : (I 256 (x + k)) ≠ 0) (h3o : (I 256 (x + k)) ≤ 3) : ∃ φ : IT → Prop, Sp m_Model_filters false (rmv 2 47) (exU K P J (.inl none) φ) K P J T [vR (some 100), vI (x + (k : Int))] ∧ ∀ U, φ U → EvI I U s y x (k + 1) := by
  obtain ⟨h1, h2, h3, h4⟩ := h
  have h : EvI I T s y x k := ⟨h1, h2, h3, h4⟩
  obtain ⟨e, rest, es, hc⟩ := hok.2.1 ho h3o
  have e1 : evK I s y x (k + 1) = (e.1, flt (stayP (I 256 (x + k)) (I 257 (x + k)) (I 258 (x + k)) (I 259 (x + k)) (I 260 (x + k))) e.2) :: rest := by
    show ev1 _ _ _ _ _ _ (evK I s y x k) = _
    rw [es]; exact ev1_f ho h3o
  rw [e1] at hB2
  rw [es] at h2 h3 hB hL
  have a := stA_rg _ hB
  have a2 := stA_rg _ hB.2
  have hr : T 100 71 = (rest.length : Int) + 1 := by rw [h3]; show ((rest.length + 1 : Nat) : Int) = _; omega
  have lr : (rest.length : Int) ≤ 2 := by have : (e :: rest : STK).length ≤ 3 := hL; simp at this; omega
  have ea : stA (e :: rest) = stA rest + (e.1 : Int) * (e.2.length : Int) := rfl
  have g256 := h.g 256 (x + k) (by decide) (by decide)
  have g257 := h.g 257 (x + k) (by decide) (by decide)
  have g258 := h.g 258 (x + k) (by decide) (by decide)
  have g259 := h.g 259 (x + k) (by decide) (by decide)
  have g260 := h.g 260 (x + k) (by decide) (by decide)
  have c := sp_Model_filters (K := K) (P := P) (J := J) (I := T) (x := x + k) (r := rest.length) (b := stA rest) (w := e.1) (n := e.2.length) hM hx hr (by omega) h2.1.2.2.1 h2.1.2.1 h2.1.1 (by omega) hB.1.1 hB.1.2 (by rw [g256, g257, g258, g259]; exact hc) (by rw [h4]; exact bI_01 _)
  rw [h2.1.2.2.2, g256, g257, g258, g259, g260] at c
  refine ⟨_, c, fun U hU => ?_⟩
  obtain ⟨⟨u1, u2, u3⟩, u4, u5⟩ := hU
  refine ⟨fun o q o1 o2 o3 o4 o5 => (u5 o q (fun z => o1 z.1) (fun z => o3 z.1) (fun z => o4 z.1) (fun z => o5 ⟨z.1, Or.inr z.2⟩)).trans (h1 o q o1 o2 o3 o4 o5), ?_, ?_, ?_⟩
  · rw [e1]
    exact ⟨⟨(u5 272 _ (by omega) (by omega) (by omega) (by omega)).trans h2.1.1, u1, u2, u3⟩, StkR.of _ hB.2 h2.2 (fun o q hq => u5 o q (by omega) (by omega) (by omega) (by omega))⟩
  · rw [e1, u5 100 71 (by omega) (by omega) (by omega) (by omega), hr]; show _ = ((rest.length + 1 : Nat) : Int); omega
  · rw [u4, bI_or h4]
    refine bIc ⟨fun z => z.elim Or.inl (fun q => Or.inr ⟨e, rest, es, q⟩), fun z => z.elim Or.inl (fun q => ?_)⟩
    obtain ⟨e', rest', q1, q2⟩ := q
    rw [es] at q1
    obtain ⟨q3, -⟩ := List.cons.inj q1
    rw [← q3] at q2
    exact Or.inr q2
theorem ev_keeps {T : IT} {s y x : Int} {k : Nat} (hM : MW K P) (hb : MB I) (h : EvI I T s y x k) (hok : okS (I 256 (x + k)) (I 257 (x + k)) (I 258 (x + k)) (I 259 (x + k)) (evK I s y x k)) (hB : stB (evK I s y x k)) (hB2 : stB (evK I s y x (k + 1))) (hL : (evK I s y x k).length ≤ 3) (hx : 0 ≤ x + (k : Int) ∧ x + (k : Int) < 252) (ho : (I 256 (x + k)) = 5) : ∃ φ : IT → Prop, Sp m_Model_keeps false (rmv 1 22) (exU K P J (.inl none) φ) K P J T [vR (some 100), vI (x + (k : Int))] ∧ ∀ U, φ U → EvI I U s y x (k + 1) := by
  obtain ⟨h1, h2, h3, h4⟩ := h
  have h : EvI I T s y x k := ⟨h1, h2, h3, h4⟩
  obtain ⟨e, rest, es, hc⟩ := hok.2.2.2.1 ho
  have e1 : evK I s y x (k + 1) = (wk (I 257 (x + k)) e.1, keepL (I 257 (x + k)) e.1 e.2) :: rest := by
    show ev1 _ _ _ _ _ _ (evK I s y x k) = _
    rw [es]; exact ev1_k ho
  rw [e1] at hB2
  rw [es] at h2 h3 hB hL
  have a := stA_rg _ hB
  have a2 := stA_rg _ hB.2
  have hr : T 100 71 = (rest.length : Int) + 1 := by rw [h3]; show ((rest.length + 1 : Nat) : Int) = _; omega
  have lr : (rest.length : Int) ≤ 2 := by have : (e :: rest : STK).length ≤ 3 := hL; simp at this; omega
  have ea : stA (e :: rest) = stA rest + (e.1 : Int) * (e.2.length : Int) := rfl
  have g256 := h.g 256 (x + k) (by decide) (by decide)
  have g257 := h.g 257 (x + k) (by decide) (by decide)
  have g258 := h.g 258 (x + k) (by decide) (by decide)
  have g259 := h.g 259 (x + k) (by decide) (by decide)
  have g260 := h.g 260 (x + k) (by decide) (by decide)
  have c := sp_Model_keeps (K := K) (P := P) (J := J) (I := T) (x := x + k) (r := rest.length) (b := stA rest) (w := e.1) (n := e.2.length) hM hx hr (by omega) h2.1.2.2.1 h2.1.2.1 h2.1.1 (by omega) hB.1.1 hB.1.2 (by rw [g257]; exact hc)
  rw [h2.1.2.2.2, g257] at c
  refine ⟨_, c, fun U hU => ?_⟩
  obtain ⟨⟨u3, u2⟩, u5⟩ := hU
  have lk : (keepL (I 257 (x + k)) e.1 e.2).length = e.2.length := List.length_map _
  refine ⟨fun o q o1 o2 o3 o4 o5 => (u5 o q (fun z => o1 z.1) (fun z => o4 z.1)).trans (h1 o q o1 o2 o3 o4 o5), ?_, ?_, ?_⟩
  · rw [e1]
    refine ⟨⟨(u5 272 _ (by omega) (by omega)).trans h2.1.1, ?_, u2, ?_⟩, StkR.of _ hB.2 h2.2 (fun o q hq => u5 o q (by omega) (by omega))⟩
    · rw [u5 273 _ (by omega) (by omega), h2.1.2.1]; show _ = ((keepL (I 257 (x + k)) e.1 e.2).length : Int); rw [lk]
    · show seg U 270 (stA rest) _ (keepL (I 257 (x + k)) e.1 e.2).length = _
      rw [lk]; exact u3
  · rw [e1, u5 100 71 (by omega) (by omega), hr]; show _ = ((rest.length + 1 : Nat) : Int); omega
  · rw [u5 100 75 (by omega) (by omega)]
    exact bI_or0 h4 (noF (by omega))
theorem ev_groups {T : IT} {s y x : Int} {k : Nat} (hM : MW K P) (hb : MB I) (h : EvI I T s y x k) (hok : okS (I 256 (x + k)) (I 257 (x + k)) (I 258 (x + k)) (I 259 (x + k)) (evK I s y x k)) (hB : stB (evK I s y x k)) (hB2 : stB (evK I s y x (k + 1))) (hL : (evK I s y x k).length ≤ 3) (hx : 0 ≤ x + (k : Int) ∧ x + (k : Int) < 252) (ho : (I 256 (x + k)) = 6) : ∃ φ : IT → Prop, Sp m_Model_groups false (rmv 2 43) (exU K P J (.inl none) φ) K P J T [vR (some 100), vI (x + (k : Int))] ∧ ∀ U, φ U → EvI I U s y x (k + 1) := by
  obtain ⟨h1, h2, h3, h4⟩ := h
  have h : EvI I T s y x k := ⟨h1, h2, h3, h4⟩
  obtain ⟨e, rest, es, hA, hC, hG⟩ := hok.2.2.2.2.1 ho
  have e1 : evK I s y x (k + 1) = (2, groupL (I 258 (x + k)) (I 257 (x + k)) (I 259 (x + k)) e.2) :: rest := by
    show ev1 _ _ _ _ _ _ (evK I s y x k) = _
    rw [es]; exact ev1_g ho
  rw [e1] at hB2
  rw [es] at h2 h3 hB hL
  have a := stA_rg _ hB
  have a2 := stA_rg _ hB.2
  have hr : T 100 71 = (rest.length : Int) + 1 := by rw [h3]; show ((rest.length + 1 : Nat) : Int) = _; omega
  have lr : (rest.length : Int) ≤ 2 := by have : (e :: rest : STK).length ≤ 3 := hL; simp at this; omega
  have ea : stA (e :: rest) = stA rest + (e.1 : Int) * (e.2.length : Int) := rfl
  have g256 := h.g 256 (x + k) (by decide) (by decide)
  have g257 := h.g 257 (x + k) (by decide) (by decide)
  have g258 := h.g 258 (x + k) (by decide) (by decide)
  have g259 := h.g 259 (x + k) (by decide) (by decide)
  have g260 := h.g 260 (x + k) (by decide) (by decide)
  have c := sp_Model_groups (K := K) (P := P) (J := J) (I := T) (x := x + k) (r := rest.length) (b := stA rest) (w := e.1) (n := e.2.length) hM hx hr (by omega) h2.1.2.2.1 h2.1.2.1 h2.1.1 (by omega) hB.1.1 hB.1.2 (by rw [g257]; exact hA) (by rw [g258, g259]; exact hC) (fun j hj z hz => by
    rw [g257, g258, g259, ← seg_take (n := e.2.length) (by omega), h2.1.2.2.2] at hz
    exact hG j hj z hz)
  rw [h2.1.2.2.2, g257, g258, g259] at c
  refine ⟨_, c, fun U hU => ?_⟩
  obtain ⟨⟨u1, u2, u3⟩, u5⟩ := hU
  refine ⟨fun o q o1 o2 o3 o4 o5 => (u5 o q (fun z => o1 z.1) (fun z => o3 z.1) (fun z => o4 z.1)).trans (h1 o q o1 o2 o3 o4 o5), ?_, ?_, ?_⟩
  · rw [e1]
    exact ⟨⟨(u5 272 _ (by omega) (by omega) (by omega)).trans h2.1.1, u1, u2, u3⟩, StkR.of _ hB.2 h2.2 (fun o q hq => u5 o q (by omega) (by omega) (by omega))⟩
  · rw [e1, u5 100 71 (by omega) (by omega) (by omega), hr]; show _ = ((rest.length + 1 : Nat) : Int); omega
  · rw [u5 100 75 (by omega) (by omega) (by omega)]
    exact bI_or0 h4 (noF (by omega))
theorem ev_joins {T : IT} {s y x : Int} {k : Nat} (hM : MW K P) (hb : MB I) (h : EvI I T s y x k) (hok : okS (I 256 (x + k)) (I 257 (x + k)) (I 258 (x + k)) (I 259 (x + k)) (evK I s y x k)) (hB : stB (evK I s y x k)) (hB2 : stB (evK I s y x (k + 1))) (hL : (evK I s y x k).length ≤ 3) (hx : 0 ≤ x + (k : Int) ∧ x + (k : Int) < 252) (ho : (I 256 (x + k)) = 4) : ∃ φ : IT → Prop, Sp m_Model_joins false (rmv 1 26) (exU K P J (.inl none) φ) K P J T [vR (some 100), vI (x + (k : Int))] ∧ ∀ U, φ U → EvI I U s y x (k + 1) := by
  obtain ⟨h1, h2, h3, h4⟩ := h
  have h : EvI I T s y x k := ⟨h1, h2, h3, h4⟩
  obtain ⟨e, d, rest, es, hw1, hw2, hn, hc1, hc2⟩ := hok.2.2.1 ho
  have e1 : evK I s y x (k + 1) = ((if 2 < I 257 (x + k) then d.1 else d.1 + e.1), joinL (I 257 (x + k)) (I 258 (x + k)) (I 259 (x + k)) d.1 e.1 d.2 e.2) :: rest := by
    show ev1 _ _ _ _ _ _ (evK I s y x k) = _
    rw [es]; exact ev1_j ho
  rw [e1] at hB2
  rw [es] at h2 h3 hB hL
  have a := stA_rg _ hB
  have a2 := stA_rg _ hB.2
  have a3 := stA_rg _ hB.2.2
  have hr : T 100 71 = (rest.length : Int) + 2 := by rw [h3]; show ((rest.length + 1 + 1 : Nat) : Int) = _; omega
  have lr : (rest.length : Int) ≤ 1 := by have : (e :: d :: rest : STK).length ≤ 3 := hL; simp at this; omega
  have ea : stA (e :: d :: rest) = stA rest + (d.1 : Int) * (d.2.length : Int) + (e.1 : Int) * (e.2.length : Int) := rfl
  have eb : stA (d :: rest) = stA rest + (d.1 : Int) * (d.2.length : Int) := rfl
  have el : (((d :: rest : STK).length : Nat) : Int) = (rest.length : Int) + 1 := by show ((rest.length + 1 : Nat) : Int) = _; omega
  have g256 := h.g 256 (x + k) (by decide) (by decide)
  have g257 := h.g 257 (x + k) (by decide) (by decide)
  have g258 := h.g 258 (x + k) (by decide) (by decide)
  have g259 := h.g 259 (x + k) (by decide) (by decide)
  obtain ⟨t1, t2, t3, t4⟩ := h2.1
  rw [el] at t1 t2 t3
  have c := sp_Model_joins (K := K) (P := P) (J := J) (I := T) (x := x + k) (r := rest.length) (a := stA rest) (b := stA (d :: rest)) (wa := d.1) (wb := e.1) (w := if 2 < I 257 (x + k) then d.1 else d.1 + e.1) (n1 := d.2.length) (n2 := e.2.length) hM hx hr (by omega) h2.2.1.2.2.1 t3 h2.2.1.2.1 t2 h2.2.1.1 t1 (by rw [eb]; omega) ⟨hB.2.1.1, hB.1.1, hB2.1.1⟩ (by rw [g257]; exact ⟨fun z => if_pos z, fun z => if_neg (by omega)⟩) ⟨hB.2.1.2, hB.1.2, hn⟩ (by rw [g258]; exact hc1) (by rw [g259]; exact hc2) (by
    rw [h2.2.1.2.2.2, t4, g257, g258, g259]
    have : (joinL (I 257 (x + k)) (I 258 (x + k)) (I 259 (x + k)) d.1 e.1 d.2 e.2).length ≤ 512 := hB2.1.2
    omega)
  rw [h2.2.1.2.2.2, t4, g257, g258, g259] at c
  refine ⟨_, c, fun U hU => ?_⟩
  obtain ⟨⟨u0, u1, u2, u3⟩, u5⟩ := hU
  refine ⟨fun o q o1 o2 o3 o4 o5 => (u5 o q (fun z => o1 z.1) (fun z => o3 z.1) (fun z => o4 z.1) (fun z => o5 ⟨z.1, Or.inl z.2⟩)).trans (h1 o q o1 o2 o3 o4 o5), ?_, ?_, ?_⟩
  · rw [e1]
    exact ⟨⟨(u5 272 _ (by omega) (by omega) (by omega) (by omega)).trans h2.2.1.1, u1, u2, u3⟩, StkR.of _ hB.2.2 h2.2.2 (fun o q hq => u5 o q (by omega) (by omega) (by omega) (by omega))⟩
  · rw [e1, u0]; show _ = ((rest.length + 1 : Nat) : Int); omega
  · rw [u5 100 75 (by omega) (by omega) (by omega) (by omega)]
    exact bI_or0 h4 (noF (by omega))
theorem ev_combines {T : IT} {s y x : Int} {k : Nat} (hM : MW K P) (hb : MB I) (h : EvI I T s y x k) (hok : okS (I 256 (x + k)) (I 257 (x + k)) (I 258 (x + k)) (I 259 (x + k)) (evK I s y x k)) (hB : stB (evK I s y x k)) (hB2 : stB (evK I s y x (k + 1))) (hL : (evK I s y x k).length ≤ 3) (hx : 0 ≤ x + (k : Int) ∧ x + (k : Int) < 252) (h3o : 3 < (I 256 (x + k))) (ho4 : (I 256 (x + k)) ≠ 4) (ho5 : (I 256 (x + k)) ≠ 5) (ho6 : (I 256 (x + k)) ≠ 6) : ∃ φ : IT → Prop, Sp m_Model_combines false (rmv 1 27) (exU K P J (.inl none) φ) K P J T [vR (some 100), vI (x + (k : Int))] ∧ ∀ U, φ U → EvI I U s y x (k + 1) := by
  obtain ⟨h1, h2, h3, h4⟩ := h
  have h : EvI I T s y x k := ⟨h1, h2, h3, h4⟩
  obtain ⟨e, d, rest, es, hw⟩ := hok.2.2.2.2.2 h3o ho4 ho5 ho6
  have e1 : evK I s y x (k + 1) = (e.1, cmbL (I 257 (x + k)) d.2 e.2) :: rest := by
    show ev1 _ _ _ _ _ _ (evK I s y x k) = _
    rw [es]; exact ev1_c h3o ho4 ho5 ho6
  rw [e1] at hB2
  rw [es] at h2 h3 hB hL
  have a := stA_rg _ hB
  have a2 := stA_rg _ hB.2
  have a3 := stA_rg _ hB.2.2
  have hr : T 100 71 = (rest.length : Int) + 2 := by rw [h3]; show ((rest.length + 1 + 1 : Nat) : Int) = _; omega
  have lr : (rest.length : Int) ≤ 1 := by have : (e :: d :: rest : STK).length ≤ 3 := hL; simp at this; omega
  have ea : stA (e :: d :: rest) = stA rest + (d.1 : Int) * (d.2.length : Int) + (e.1 : Int) * (e.2.length : Int) := rfl
  have eb : stA (d :: rest) = stA rest + (d.1 : Int) * (d.2.length : Int) := rfl
  have el : (((d :: rest : STK).length : Nat) : Int) = (rest.length : Int) + 1 := by show ((rest.length + 1 : Nat) : Int) = _; omega
  have g256 := h.g 256 (x + k) (by decide) (by decide)
  have g257 := h.g 257 (x + k) (by decide) (by decide)
  have g258 := h.g 258 (x + k) (by decide) (by decide)
  have g259 := h.g 259 (x + k) (by decide) (by decide)
  obtain ⟨t1, t2, t3, t4⟩ := h2.1
  rw [el] at t1 t2 t3
  have s4 := h2.2.1.2.2.2
  rw [hw] at s4 eb ea
  have c := sp_Model_combines (K := K) (P := P) (J := J) (I := T) (x := x + k) (r := rest.length) (a := stA rest) (b := stA (d :: rest)) (w := e.1) (n1 := d.2.length) (n2 := e.2.length) hM hx hr (by omega) t3 h2.2.1.2.1 t2 h2.2.1.1 t1 (by rw [eb]; omega) hB.1.1 ⟨hB.2.1.2, hB.1.2⟩ (by
    rw [s4, t4, g257]
    have : (cmbL (I 257 (x + k)) d.2 e.2).length ≤ 512 := hB2.1.2
    omega)
  rw [s4, t4, g257] at c
  refine ⟨_, c, fun U hU => ?_⟩
  obtain ⟨⟨u0, u1, u2, u3⟩, u5⟩ := hU
  refine ⟨fun o q o1 o2 o3 o4 o5 => (u5 o q (fun z => o1 z.1) (fun z => o3 z.1) (fun z => o4 z.1) (fun z => o5 ⟨z.1, Or.inl z.2⟩)).trans (h1 o q o1 o2 o3 o4 o5), ?_, ?_, ?_⟩
  · rw [e1]
    exact ⟨⟨(u5 272 _ (by omega) (by omega) (by omega) (by omega)).trans h2.2.1.1, u1, u2, u3⟩, StkR.of _ hB.2.2 h2.2.2 (fun o q hq => u5 o q (by omega) (by omega) (by omega) (by omega))⟩
  · rw [e1, u0]; show _ = ((rest.length + 1 : Nat) : Int); omega
  · rw [u5 100 75 (by omega) (by omega) (by omega) (by omega)]
    exact bI_or0 h4 (noF (by omega))
end
