/-! the calls that build queries, in class and reference -/
section
variable {I S I' S' : IT} {q n : Nat}
theorem bNe {p : Prop} : bI p ≠ 0 ↔ p := ⟨bIn, fun h => by rw [bI1 h]; decide⟩
theorem bEq {p : Prop} : bI p = 0 ↔ ¬ p := ⟨bIe, bI0⟩
theorem up2_if (f : IT) (o : Nat) (k v j : Int) : up2 f o k v o j = if j = k then v else f o j := by
  by_cases hZ : j = k
  · rw [hZ, up2_eq, if_pos rfl]
  · rw [up2_k _ _ _ _ hZ, if_neg hZ]
theorem TrR.frm (h : TrR I S q n) (hI : ∀ o, q ≤ o → o < q + 10 → I' o = I o) (hS : ∀ o, 254 ≤ o → o ≤ 260 → S' o = S o) (h201 : S' 201 = S 201) (h1 : S' 100 0 = S 100 0 ∧ S' 100 51 = S 100 51 ∧ S' 100 52 = S 100 52 ∧ S' 100 55 = S 100 55) : TrR I' S' q n := by
  obtain ⟨⟨a1Z, a2, a3, a4⟩, bZ, ⟨c1Z, c2Z⟩, ⟨d1Z, d2Z⟩, e1Z, e2Z, e3Z, e4Z, e5Z⟩ := h
  obtain ⟨t0Z, t1Z, t2Z, t3Z⟩ := h1
  have smZ : OpSame S' S 0 0 n := fun j _ => by
    rw [hS 256 (by decide) (by decide), hS 257 (by decide) (by decide), hS 258 (by decide) (by decide), hS 259 (by decide) (by decide), hS 260 (by decide) (by decide)]
    exact ⟨rfl, rfl, rfl, rfl, rfl⟩
  have h2 : ∀ t, 0 ≤ t → t < S 100 0 → S' 201 t = S 201 t := fun t _ _ => by rw [h201]
  have wnZ := smZ.ws bZ h2 n (Nat.le_refl _)
  have rn := smZ.rt n (Nat.le_refl _)
  have i0Z := hI q (by omega) (by omega)
  have i5Z := hI (q + 5) (by omega) (by omega)
  have i9Z := hI (q + 9) (by omega) (by omega)
  have su : QuSame I' I q n := by
    unfold QuSame
    rw [i0Z, i5Z, hI (q + 3) (by omega) (by omega), hI (q + 4) (by omega) (by omega), hI (q + 6) (by omega) (by omega), hI (q + 7) (by omega) (by omega)]
    exact ⟨rfl, fun k _ => ⟨⟨rfl, rfl, rfl, rfl⟩, fun j _ _ => rfl⟩⟩
  refine ⟨⟨t2Z.trans a1Z, by rw [i0Z]; exact a2, by rw [i0Z, t3Z]; exact a3, by rw [i0Z, t1Z]; exact a4⟩, smZ.qv bZ h2 (by omega), ⟨c1Z.of su smZ bZ h2, c2Z.of su smZ⟩, ⟨by rw [t1Z, wnZ]; exact d1Z, by rw [t3Z, wnZ]; exact d2Z⟩, by rw [rn, wnZ]; exact e1Z, ?_, ?_, ?_, ?_⟩
  · rw [wnZ, t1Z, hS 254 (by decide) (by decide)]; exact e2Z
  · rw [rn, wnZ, t1Z, i9Z, i5Z]; exact e3Z
  · rw [i9Z]; exact e4Z
  · rw [hS 254 (by decide) (by decide)]; exact e5Z
theorem TrR.qub (h : TrR I S q n) (hs : SSch S) : QuB I q ∧ (0 ≤ S 100 51 ∧ S 100 51 ≤ 3) ∧ (0 ≤ S 100 55 ∧ S 100 55 ≤ 3) ∧ n ≤ 12 := by
  obtain ⟨w1Z, w2Z⟩ := wsT_ok hs h.2.1 n (Nat.le_refl _)
  have l := w1Z.len
  obtain ⟨⟨a1Z, a2, a3, a4⟩, bZ, -, ⟨d1Z, d2Z⟩, -, -, -, e4Z, -⟩ := h
  have n12 := bZ.1
  exact ⟨⟨⟨by omega, by omega⟩, ⟨by omega, by omega⟩, e4Z⟩, ⟨by omega, by omega⟩, ⟨by omega, by omega⟩, n12⟩
theorem TrR.lrg (h : TrR I S q n) : (0 ≤ quLast I q ∧ quLast I q ≤ 10) ∧ 0 ≤ quEarl I q ∧ quEarl I q ≤ 10 := by
  have e5Z := h.2.2.2.2.2.2.2.2
  rw [h.last, h.earl]
  have aZ := e5Z (S 100 51 - 1)
  have bZ := e5Z (S 100 51 - 2)
  constructor
  · split <;> omega
  · split <;> omega
theorem TrR.ofl (h : TrR I S q n) (h51 : 0 < S 100 51) (c : Int) : mOfLast S c ↔ 0 ≤ c ∧ c < quLast I q := by
  rw [h.last, if_pos h51]
  unfold mOfLast
  constructor
  · intro wZ; omega
  · intro wZ; omega
theorem TrR.top (h : TrR I S q n) (hs : SSch S) (h51 : 0 < S 100 51) : ∃ e rest, wsT S 0 n = e :: rest ∧ S 254 (S 100 51 - 1) = e.1 ∧ 1 ≤ e.1 ∧ e.1 ≤ 10 := by
  have wZ := h.wid hs
  have l := h.2.2.2.1.1
  revert wZ l
  generalize wsT S 0 n = st
  intro wZ l
  cases st with
  | nil => rw [l] at h51; exact absurd h51 (by decide)
  | cons e rest =>
    have := wZ 0 e rfl
    rw [show S 100 51 - 1 - ((0 : Nat) : Int) = S 100 51 - 1 by omega] at this
    exact ⟨e, rest, rfl, this⟩
theorem TrR.top2 (h : TrR I S q n) (hs : SSch S) (h51 : 1 < S 100 51) : ∃ e d rest, wsT S 0 n = e :: d :: rest ∧ S 254 (S 100 51 - 1) = e.1 ∧ S 254 (S 100 51 - 2) = d.1 := by
  have wZ := h.wid hs
  have l := h.2.2.2.1.1
  revert wZ l
  generalize wsT S 0 n = st
  intro wZ l
  cases st with
  | nil => rw [l] at h51; exact absurd h51 (by decide)
  | cons e rest =>
    cases rest with
    | nil => rw [l] at h51; exact absurd h51 (by show ¬ (1 : Int) < 1; decide)
    | cons d rest =>
      have aZ := (wZ 0 e rfl).1
      have bZ := (wZ 1 d rfl).1
      rw [show S 100 51 - 1 - ((0 : Nat) : Int) = S 100 51 - 1 by omega] at aZ
      rw [show S 100 51 - 1 - ((1 : Nat) : Int) = S 100 51 - 2 by omega] at bZ
      exact ⟨e, d, rest, rfl, aZ, bZ⟩
/-- what a new operator of the class is -/
theorem quX {X : IT} {k w f s a b c d : Int} (hX : X = quSet (quPut I q k w f s) q a b c d) (hn : I q 0 = n) :
    X q 0 = (n : Int) + 1 ∧ (∀ j, j ≠ 0 → X q j = I q j) ∧ (∀ j, X (q + 3) j = if j = n then k else I (q + 3) j) ∧ (∀ j, X (q + 4) j = if j = (n : Int) * 4 then a else if j = (n : Int) * 4 + 1 then b else if j = (n : Int) * 4 + 2 then c else if j = (n : Int) * 4 + 3 then d else I (q + 4) j) ∧ (∀ j, X (q + 5) j = if j = n then w else I (q + 5) j) ∧ (∀ j, X (q + 6) j = if j = n then f else I (q + 6) j) ∧ (∀ j, X (q + 7) j = if j = n then s else I (q + 7) j) ∧ ∀ o, o < q ∨ q + 8 ≤ o → X o = I o := by
  subst hX
  have c0Z : quPut I q k w f s q 0 = (n : Int) + 1 := by rw [quPut_c, hn]
  have cx : ∀ o, o ≠ q + 4 → quSet (quPut I q k w f s) q a b c d o = quPut I q k w f s o := fun o h => quSet_o _ _ _ _ _ _ h
  refine ⟨by rw [cx q (by omega)]; exact c0Z, fun j hj => by rw [cx q (by omega)]; exact quPut_f _ _ _ _ _ _ hj, fun j => ?_, fun j => ?_, fun j => ?_, fun j => ?_, fun j => ?_, fun o ho => ?_⟩
  · rw [cx _ (by omega)]
    unfold quPut
    rw [up2_o _ _ _ _ (by omega), filI_fr (by omega), up2_o _ _ _ _ (by omega), up2_o _ _ _ _ (by omega), up2_o _ _ _ _ (by omega), up2_if, hn]
  · unfold quSet
    rw [c0Z, show (n : Int) + 1 - 1 = n by omega]
    by_cases h3 : j = (n : Int) * 4 + 3
    · rw [h3, up2_eq, if_neg (by omega), if_neg (by omega), if_neg (by omega), if_pos rfl]
    rw [up2_k _ _ _ _ h3, if_neg h3]
    by_cases h2 : j = (n : Int) * 4 + 2
    · rw [h2, up2_eq, if_neg (by omega), if_neg (by omega), if_pos rfl]
    rw [up2_k _ _ _ _ h2, if_neg h2]
    by_cases h1 : j = (n : Int) * 4 + 1
    · rw [h1, up2_eq, if_neg (by omega), if_pos rfl]
    rw [up2_k _ _ _ _ h1, if_neg h1]
    by_cases h0 : j = (n : Int) * 4
    · rw [h0, up2_eq, if_pos rfl]
    rw [up2_k _ _ _ _ h0, if_neg h0]
    unfold quPut
    rw [up2_o _ _ _ _ (by omega), hn]
    refine (if_neg (fun z => ?_)).trans ?_
    · have := z.2; omega
    · rw [up2_o _ _ _ _ (by omega), up2_o _ _ _ _ (by omega), up2_o _ _ _ _ (by omega), up2_o _ _ _ _ (by omega)]
  · rw [cx _ (by omega)]
    unfold quPut
    rw [up2_o _ _ _ _ (by omega), filI_fr (by omega), up2_o _ _ _ _ (by omega), up2_o _ _ _ _ (by omega), up2_if, hn, up2_o _ _ _ _ (by omega)]
  · rw [cx _ (by omega)]
    unfold quPut
    rw [up2_o _ _ _ _ (by omega), filI_fr (by omega), up2_o _ _ _ _ (by omega), up2_if, hn, up2_o _ _ _ _ (by omega), up2_o _ _ _ _ (by omega)]
  · rw [cx _ (by omega)]
    unfold quPut
    rw [up2_o _ _ _ _ (by omega), filI_fr (by omega), up2_if, hn, up2_o _ _ _ _ (by omega), up2_o _ _ _ _ (by omega), up2_o _ _ _ _ (by omega)]
  · rw [cx _ (by omega)]
    exact quPut_o _ _ _ _ _ _ (by omega)
/-- what a new operator of the reference is -/
theorem mAddX {T : IT} {op a b c nt : Int} (hT : T = mAdd S op a b c nt) (hn : S 100 52 = n) : (∀ o, o ≠ 100 → o < 256 ∨ 260 < o → T o = S o) ∧ (∀ k, k ≠ 52 → T 100 k = S 100 k) ∧ T 100 52 = (n : Int) + 1 ∧ (∀ k, T 256 k = if k = n then op else S 256 k) ∧ (∀ k, T 257 k = if k = n then a else S 257 k) ∧ (∀ k, T 258 k = if k = n then b else S 258 k) ∧ (∀ k, T 259 k = if k = n then c else S 259 k) ∧ ∀ k, T 260 k = if k = n then nt else S 260 k := by
  subst hT
  unfold mAdd
  rw [hn]
  refine ⟨fun o h1 h2 => funext (fun k => ?_), fun k hk => ?_, up2_eq _ _ _ _, fun k => ?_, fun k => ?_, fun k => ?_, fun k => ?_, fun k => ?_⟩
  · rw [up2_o _ _ _ _ h1, up2_o _ _ _ _ (by omega), up2_o _ _ _ _ (by omega), up2_o _ _ _ _ (by omega), up2_o _ _ _ _ (by omega), up2_o _ _ _ _ (by omega)]
  · rw [up2_k _ _ _ _ hk, up2_o _ _ _ _ (by decide), up2_o _ _ _ _ (by decide), up2_o _ _ _ _ (by decide), up2_o _ _ _ _ (by decide), up2_o _ _ _ _ (by decide)]
  · rw [up2_o _ _ _ _ (by decide), up2_o _ _ _ _ (by decide), up2_o _ _ _ _ (by decide), up2_o _ _ _ _ (by decide), up2_o _ _ _ _ (by decide), up2_if]
  · rw [up2_o _ _ _ _ (by decide), up2_o _ _ _ _ (by decide), up2_o _ _ _ _ (by decide), up2_o _ _ _ _ (by decide), up2_if, up2_o _ _ _ _ (by decide)]
  · rw [up2_o _ _ _ _ (by decide), up2_o _ _ _ _ (by decide), up2_o _ _ _ _ (by decide), up2_if, up2_o _ _ _ _ (by decide), up2_o _ _ _ _ (by decide)]
  · rw [up2_o _ _ _ _ (by decide), up2_o _ _ _ _ (by decide), up2_if, up2_o _ _ _ _ (by decide), up2_o _ _ _ _ (by decide), up2_o _ _ _ _ (by decide)]
  · rw [up2_o _ _ _ _ (by decide), up2_if, up2_o _ _ _ _ (by decide), up2_o _ _ _ _ (by decide), up2_o _ _ _ _ (by decide), up2_o _ _ _ _ (by decide)]
theorem dOp1 {op : Int} (h : 1 ≤ op ∧ op ≤ 6 ∧ op ≠ 4) : dOp op = 1 := by
  unfold dOp
  rw [if_neg (by omega), if_neg (by omega)]
theorem dOp2 {op : Int} (h : op = 4 ∨ op = 7) : dOp op = 2 := by
  unfold dOp
  rw [if_neg (by omega), if_pos h]
/-- an operator that takes one result -/
theorem TrR.one {op A B C C' nt W : Int} (h : TrR I S q n) (hs : SSch S) (hn : n < 12) (h51 : 0 < S 100 51) (hop : 1 ≤ op ∧ op ≤ 6 ∧ op ≠ 4) (hv : opV S op A B C (wsT S 0 n)) (hc : ¬ (op = 6 ∧ B = 0) → C' = C) (hc0 : op = 6 → B = 0 → C' = 0)
    (hI : I' = quOne I q op W A B C' nt) (e1 : ∀ o, o ≠ 254 → S' o = mAdd S op A B C nt o) (e2 : ∀ k, S' 254 k = if k = S 100 51 - 1 then W else S 254 k) (hW : ∀ e r, ws1 (S 201) op A (wsT S 0 n) = e :: r → W = e.1) :
    TrR I' S' q (n + 1) ∧ I' q 7 = S 100 51 := by
  obtain ⟨a1Z, a2, a3, a4⟩ := h.1
  obtain ⟨m0Z, m1Z, m2Z, m3Z, m4Z, m5Z, m6Z, m7Z⟩ := mAddX (S := S) (T := mAdd S op A B C nt) rfl a1Z
  obtain ⟨x0Z, x1Z, x3, x4Z, x5Z, x6, x7, x8⟩ := quX (I := I) (X := quSet (quPut I q op W (I (q + 9) (I q 7 - 1)) (-1)) q A B C' nt) rfl a2
  have d1Z := dOp1 hop
  have r0 := (h.rt0 (j := 0) (by omega)).1
  rw [show S 100 51 - 1 - ((0 : Nat) : Int) = S 100 51 - 1 by omega] at r0
  have s51 : S' 100 51 = S 100 51 := by rw [e1 100 (by decide)]; exact m1Z 51 (by decide)
  have i7Z : I' q 7 = S 100 51 := by
    rw [hI]; unfold quOne
    rw [up2_o _ _ _ _ (by omega), x1Z 7 (by decide), a4]
  have io : ∀ o, o ≠ q + 9 → I' o = quSet (quPut I q op W (I (q + 9) (I q 7 - 1)) (-1)) q A B C' nt o := fun o ho => funext (fun k => by rw [hI]; unfold quOne; rw [up2_o _ _ _ _ ho])
  refine ⟨h.add (op := op) (A := A) (B := B) (C := C) (C' := C') (nt := nt) (W := W) (F := I (q + 9) (I q 7 - 1)) (G := -1) hs hn hv hc hc0 ⟨?_, ?_, ?_, ?_, ?_, ?_, ?_, ?_⟩ ⟨?_, ?_, ?_⟩ ⟨?_, ?_, ?_, ?_, ?_, ?_, ?_, ?_, ?_⟩ hW ?_ ?_, i7Z⟩
  · intro tZ; rw [e1 201 (by decide), m0Z 201 (by decide) (by omega)]
  · rw [e1 100 (by decide)]; exact m1Z 0 (by decide)
  · rw [e1 100 (by decide)]; exact m2Z
  · rw [e1 256 (by decide)]; exact m3Z
  · rw [e1 257 (by decide)]; exact m4Z
  · rw [e1 258 (by decide)]; exact m5Z
  · rw [e1 259 (by decide)]; exact m6Z
  · rw [e1 260 (by decide)]; exact m7Z
  · rw [s51, d1Z]; omega
  · rw [e1 100 (by decide), if_neg (by omega)]; rw [m1Z 55 (by decide)]; omega
  · rw [s51]; exact e2
  · rw [io q (by omega)]; exact x0Z
  · rw [io q (by omega), x1Z 1 (by decide), a3, e1 100 (by decide), m1Z 55 (by decide)]
  · rw [i7Z, s51]
  · rw [io _ (by omega)]; exact x3
  · rw [io _ (by omega)]; exact x4Z
  · rw [io _ (by omega)]; exact x5Z
  · rw [io _ (by omega)]; exact x6
  · rw [io _ (by omega)]; exact x7
  · intro k
    rw [hI, s51]; unfold quOne
    rw [up2_if, x8 _ (by omega), a4, a2]
  · rw [d1Z, if_neg (by decide), if_neg (by decide), a4]; exact r0
  · rw [d1Z, if_neg (by decide)]
/-- an operator that takes two results -/
theorem TrR.two {op A B C W : Int} (h : TrR I S q n) (hs : SSch S) (hn : n < 12) (h51 : 1 < S 100 51) (hop : op = 4 ∨ op = 7) (hv : opV S op A B C (wsT S 0 n))
    (hI : I' = quTwo I q op W A B C) (e1 : ∀ o, o ≠ 254 → o ≠ 100 → S' o = mAdd S op A B C 0 o) (e3 : ∀ k, k ≠ 51 → S' 100 k = mAdd S op A B C 0 100 k) (s51 : S' 100 51 = S 100 51 - 1) (e2 : ∀ k, S' 254 k = if k = S 100 51 - 1 - 1 then W else S 254 k) (hW : ∀ e r, ws1 (S 201) op A (wsT S 0 n) = e :: r → W = e.1) :
    TrR I' S' q (n + 1) ∧ I' q 7 = S 100 51 - 1 := by
  obtain ⟨a1Z, a2, a3, a4⟩ := h.1
  obtain ⟨m0Z, m1Z, m2Z, m3Z, m4Z, m5Z, m6Z, m7Z⟩ := mAddX (S := S) (T := mAdd S op A B C 0) rfl a1Z
  obtain ⟨x0Z, x1Z, x3, x4Z, x5Z, x6, x7, x8⟩ := quX (I := I) (X := quSet (quPut I q op W (I (q + 9) (I q 7 - 2)) (I (q + 9) (I q 7 - 1))) q A B C 0) rfl a2
  have d1Z := dOp2 hop
  have r0 := (h.rt0 (j := 0) (by omega)).1
  have r1Z := (h.rt0 (j := 1) (by omega)).1
  rw [show S 100 51 - 1 - ((0 : Nat) : Int) = S 100 51 - 1 by omega] at r0
  rw [show S 100 51 - 1 - ((1 : Nat) : Int) = S 100 51 - 2 by omega] at r1Z
  have i7Z : I' q 7 = S 100 51 - 1 := by
    rw [hI]; unfold quTwo
    rw [up2_o _ _ _ _ (by omega), up2_eq, a4]
  have io : ∀ o, o ≠ q + 9 → o ≠ q → I' o = quSet (quPut I q op W (I (q + 9) (I q 7 - 2)) (I (q + 9) (I q 7 - 1))) q A B C 0 o := fun o ho hq => funext (fun k => by rw [hI]; unfold quTwo; rw [up2_o _ _ _ _ ho, up2_o _ _ _ _ hq])
  have iq : ∀ k, k ≠ 7 → I' q k = quSet (quPut I q op W (I (q + 9) (I q 7 - 2)) (I (q + 9) (I q 7 - 1))) q A B C 0 q k := fun k hk => by rw [hI]; unfold quTwo; rw [up2_o _ _ _ _ (by omega), up2_k _ _ _ _ hk]
  refine ⟨h.add (op := op) (A := A) (B := B) (C := C) (C' := C) (nt := 0) (W := W) (F := I (q + 9) (I q 7 - 2)) (G := I (q + 9) (I q 7 - 1)) hs hn hv (fun _ => rfl) (fun z => by omega) ⟨?_, ?_, ?_, ?_, ?_, ?_, ?_, ?_⟩ ⟨?_, ?_, ?_⟩ ⟨?_, ?_, ?_, ?_, ?_, ?_, ?_, ?_, ?_⟩ hW ?_ ?_, i7Z⟩
  · intro tZ; rw [e1 201 (by decide) (by decide), m0Z 201 (by decide) (by omega)]
  · rw [e3 0 (by decide)]; exact m1Z 0 (by decide)
  · rw [e3 52 (by decide)]; exact m2Z
  · rw [e1 256 (by decide) (by decide)]; exact m3Z
  · rw [e1 257 (by decide) (by decide)]; exact m4Z
  · rw [e1 258 (by decide) (by decide)]; exact m5Z
  · rw [e1 259 (by decide) (by decide)]; exact m6Z
  · rw [e1 260 (by decide) (by decide)]; exact m7Z
  · rw [s51, d1Z]; omega
  · rw [e3 55 (by decide), if_neg (by omega)]; rw [m1Z 55 (by decide)]; omega
  · rw [s51]; exact e2
  · rw [iq 0 (by decide)]; exact x0Z
  · rw [iq 1 (by decide), x1Z 1 (by decide), a3, e3 55 (by decide), m1Z 55 (by decide)]
  · rw [i7Z, s51]
  · rw [io _ (by omega) (by omega)]; exact x3
  · rw [io _ (by omega) (by omega)]; exact x4Z
  · rw [io _ (by omega) (by omega)]; exact x5Z
  · rw [io _ (by omega) (by omega)]; exact x6
  · rw [io _ (by omega) (by omega)]; exact x7
  · intro k
    rw [hI, s51]; unfold quTwo
    rw [up2_if, up2_o _ _ _ _ (by omega), x8 _ (by omega), a4, a2]
  · rw [d1Z, if_neg (by decide), if_pos rfl, a4]; exact r1Z
  · rw [d1Z, if_pos rfl, a4]; exact r0
end
