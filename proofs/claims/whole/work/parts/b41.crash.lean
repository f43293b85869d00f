/-! a crash: what the reference writes, and what is left running -/
section
variable {I S T I' S' : IT} {n N g : Nat} {lv mv : Nat → Nat} {q : Int}
/-- the records of an undoing, when u of the last ones are undone already -/
noncomputable def unU (S : IT) (i : Int) : Nat → Nat → List Rc
  | 0, _ => []
  | k + 1, u => if S 246 k = 0 ∧ S 247 k = i then (match u with
    | 0 => (2, i, S 248 k, S 249 k) :: unU S i k 0
    | u + 1 => unU S i k u) else unU S i k u
theorem unU_no {i : Int} {k u : Nat} (h : ¬ (S 246 k = 0 ∧ S 247 k = i)) : unU S i (k + 1) u = unU S i k u := if_neg h
theorem unU_0 {i : Int} {k : Nat} (h : S 246 k = 0 ∧ S 247 k = i) : unU S i (k + 1) 0 = (2, i, S 248 k, S 249 k) :: unU S i k 0 := if_pos h
theorem unU_1 {i : Int} {k u : Nat} (h : S 246 k = 0 ∧ S 247 k = i) : unU S i (k + 1) (u + 1) = unU S i k u := if_pos h
theorem mUn_X {i : Int} {N : Nat} : ∀ (k u : Nat) (T : IT) (N' : Nat) (c : Int), k ≤ N → N ≤ N' → T 100 44 = N' → (∀ r : Int, r < N → T 246 r = S 246 r ∧ T 247 r = S 247 r ∧ T 248 r = S 248 r ∧ T 249 r = S 249 r) → MlX T (mUn i k (u : Int) T c).1 N' (unU S i k u) ∧ (mUn i k (u : Int) T c).2 = c + ((unU S i k u).length : Int) := by
  intro k
  induction k with
  | zero =>
    intro u T N' c _ _ h44 _
    exact ⟨MlX.rf h44, by show c = c + ((0 : Nat) : Int); omega⟩
  | succ k ihZ =>
    intro u T N' c hn hNZ h44 hTZ
    have hr := hTZ k (by omega)
    by_cases hZ : S 246 k = 0 ∧ S 247 k = i
    · have h' : T 246 k = 0 ∧ T 247 k = i := by rw [hr.1, hr.2.1]; exact hZ
      cases u with
      | zero =>
        rw [mUn_yes h' (by omega), unU_0 hZ, hr.2.2.1, hr.2.2.2]
        have m1Z := MlX.one (S := T) (k := 2) (i := i) (t := S 248 k) (y := S 249 k) h44
        obtain ⟨aZ, bZ⟩ := ihZ 0 (mnotes T 2 i (S 248 k) (S 249 k)) (N' + 1) (c + 1) (by omega) (by omega) m1Z.2.1 (fun r hr' => by
          have u := m1Z.2.2.1 r (by simp; omega)
          have vZ := hTZ r hr'
          exact ⟨u.1.trans vZ.1, u.2.1.trans vZ.2.1, u.2.2.1.trans vZ.2.2.1, u.2.2.2.trans vZ.2.2.2⟩)
        refine ⟨m1Z.tr aZ, ?_⟩
        rw [bZ, List.length_cons]; omega
      | succ u =>
        rw [mUn_skip h' (by omega), unU_1 hZ, show ((u + 1 : Nat) : Int) - 1 = (u : Int) by omega]
        exact ihZ u T N' c (by omega) hNZ h44 hTZ
    · rw [mUn_no (by rw [hr.1, hr.2.1]; exact hZ), unU_no hZ]
      exact ihZ u T N' c (by omega) hNZ h44 hTZ
noncomputable def nUn (S : IT) (i : Int) (N : Nat) : Nat := (cntI (mUnG S i) N).toNat
noncomputable def crL (S : IT) (i : Int) (N : Nat) : List Rc := unU S i N (nUn S i N) ++ [(3, i, -2147483648, -2147483648)]
theorem mUndoes_X {i : Int} (h : S 100 44 = (N : Int)) : MlX S (mUndoes S i) N (crL S i N) ∧ (mUnR S i).2 = ((unU S i N (nUn S i N)).length : Int) := by
  have e1Z : (S 100 44).toNat = N := by rw [h]; omega
  have e2Z : cntI (mUnG S i) N = ((nUn S i N : Nat) : Int) := by
    have := cntI_rg (mUnG S i) N
    unfold nUn; omega
  obtain ⟨aZ, bZ⟩ := mUn_X (S := S) (i := i) (N := N) N (nUn S i N) S N 0 (Nat.le_refl _) (Nat.le_refl _) h (fun r _ => ⟨rfl, rfl, rfl, rfl⟩)
  have e3Z : mUnR S i = mUn i N ((nUn S i N : Nat) : Int) S 0 := by unfold mUnR; rw [e1Z, e2Z]
  unfold mUndoes
  rw [e3Z]
  exact ⟨aZ.tr (MlX.one aZ.2.1), by rw [bZ]; omega⟩
theorem undL_eqU {g : Nat} {i : Int} {N : Nat} (h : lgEq I S g N) : ∀ k u : Nat, k ≤ N → undL I g i k u = (unU S i k u).map (fun x => rcN x.1 x.2.1 x.2.2.1 x.2.2.2) := by
  intro k
  induction k with
  | zero => intro u _; rfl
  | succ k ihZ =>
    intro u hn
    obtain ⟨h0, h1, h2, h3⟩ := h k (by omega)
    by_cases cZ : S 246 k = 0 ∧ S 247 k = i
    · have c' : lgW I g i k := ⟨h0.trans cZ.1, h1.trans cZ.2⟩
      cases u with
      | zero => rw [undL_y0 c', unU_0 cZ, ihZ 0 (by omega), h2, h3]; rfl
      | succ u => rw [undL_y1 c', unU_1 cZ, ihZ u (by omega)]
    · rw [undL_no (fun z => cZ ⟨h0.symm.trans z.1, h1.symm.trans z.2⟩), unU_no cZ, ihZ u (by omega)]
theorem unU_mem {i : Int} {x : Rc} : ∀ k u : Nat, x ∈ unU S i k u → x.1 = 2 ∧ x.2.1 = i := by
  intro k
  induction k with
  | zero => intro u hZ; cases hZ
  | succ k ihZ =>
    intro u hZ
    by_cases cZ : S 246 k = 0 ∧ S 247 k = i
    · cases u with
      | zero =>
        rw [unU_0 cZ] at hZ
        rcases List.mem_cons.mp hZ with eZ | hZ
        · rw [eZ]; exact ⟨rfl, rfl⟩
        · exact ihZ 0 hZ
      | succ u => rw [unU_1 cZ] at hZ; exact ihZ u hZ
    · rw [unU_no cZ] at hZ; exact ihZ u hZ
theorem crL_mem {i : Int} {x : Rc} (h : x ∈ crL S i N) : (x.1 = 2 ∨ x.1 = 3) ∧ x.2.1 = i := by
  unfold crL at h
  rcases List.mem_append.mp h with h | h
  · have := unU_mem _ _ h; exact ⟨Or.inl this.1, this.2⟩
  · have : x = (3, i, -2147483648, -2147483648) := by first | exact List.mem_singleton.mp h | simpa using h
    rw [this]; exact ⟨Or.inr rfl, rfl⟩
/-- nothing runs: records that undo and end one that was aborted may come -/
theorem ER.logged {i g' : Nat} {L : List Rc} (h : ER I S n N g lv mv q) (hl : ∀ j, j < n → lv j < 15 ∧ mv j < 15) (hg : g < 10) (hno : ∀ j, ¬ opS S n j) (hi : i < n) (h3 : S 221 i ≠ 2) (hX : MlX S S' N L) (hL : ∀ x ∈ L, (x.1 = 2 ∨ x.1 = 3) ∧ x.2.1 = i) (h16 : N + L.length ≤ 16384)
    (hI : ∀ o, ¬ nLg o → I' o = I o) (hI1 : I' 1192 0 = ((N + L.length : Nat) : Int) ∧ I' 1192 1 = I 1192 1) (hlg : lgEq I' S' g' (N + L.length)) (hf : ∀ (r : Nat) f, r < N → 0 ≤ f → f < 8 → lgF I' g' r f = lgF I g r f) : ER I' S' n (N + L.length) g' lv mv q := by
  have n60 := h.cnt.2.2.1
  have so : ∀ o, (o < 246 ∨ 249 < o) → o ≠ 100 → S' o = S o := fun o aZ bZ => funext (fun k => hX.1 o k aZ (Or.inl bZ))
  have s1Z : ∀ k, k ≠ 44 → S' 100 k = S 100 k := fun k hk => hX.1 100 k (by omega) (Or.inr hk)
  have e221 := so 221 (by decide) (by decide)
  have io : ∀ o, (o < 1192 ∨ (1192 < o ∧ o < 12000)) → I' o = I o := fun o ho => hI o (by unfold nLg; omega)
  have hno' : ∀ j, ¬ opS S' n j := fun j => by unfold opS; rw [e221]; exact hno j
  have oldZ : ∀ r : Int, r < N → S' 246 r = S 246 r ∧ S' 247 r = S 247 r ∧ S' 248 r = S 248 r ∧ S' 249 r = S 249 r := fun r hr => hX.2.2.1 r (by omega)
  have beyondZ : ∀ r : Int, ((N + L.length : Nat) : Int) ≤ r → S' 246 r = S 246 r ∧ S' 247 r = S 247 r ∧ S' 248 r = S 248 r ∧ S' 249 r = S 249 r := fun r hr => hX.2.2.1 r (by omega)
  have newZ : ∀ r : Int, (N : Int) ≤ r → r < ((N + L.length : Nat) : Int) → (S' 246 r = 2 ∨ S' 246 r = 3) ∧ S' 247 r = i := fun r h0 h1 => by
    obtain ⟨x, hx, aZ, bZ, -⟩ := new_rec hX h0 h1
    rw [aZ, bZ]
    exact ⟨(hL x hx).1, (hL x hx).2⟩
  have wrZ : ∀ r j t y, wrR S' r j t y ↔ wrR S r j t y := fun r j t y => wrR_ap hX h.cnt.2.1 (fun x hx => by have := (hL x hx).1; omega)
  have rdZ : ∀ j t y, mRead S' j t y ↔ mRead S j t y := fun j t y => by unfold mRead; rw [so 233 (by decide) (by decide), so 234 (by decide) (by decide), so 235 (by decide) (by decide), so 236 (by decide) (by decide)]
  have itx : ∀ j, j < n → ∀ aZ, aZ < 128 → I' (tX j + aZ) = I (tX j + aZ) := fun j hj aZ ha => io _ (by unfold tX; omega)
  have itx0 : ∀ j, j < n → I' (tX j) = I (tX j) := fun j hj => itx j hj 0 (by decide)
  obtain ⟨c1Z, c2Z, c3Z⟩ := h.sp.2.1
  have ee : ∀ o k, (200 < o ∧ o < 214) ∨ (o = 100 ∧ (k = 0 ∨ k = 8)) → S' o k = S o k := fun o k hk => hX.1 o k (by omega) (by omega)
  refine ⟨⟨(h.sch.1.of (fun o ho => io o (by omega))).ofS ee, h.sch.2.of ee⟩, h.mb.of (s1Z _ (by decide)) (s1Z _ (by decide)) (s1Z _ (by decide)) (fun k => by rw [so 201 (by decide) (by decide)]) (fun k => by rw [so 202 (by decide) (by decide)]) (fun k => by rw [so 206 (by decide) (by decide)]) (fun k => by rw [so 211 (by decide) (by decide)]) (fun k => by rw [so 214 (by decide) (by decide)]; exact h.mb.row k) (fun k => by rw [so 223 (by decide) (by decide)]) (fun k => by rw [so 236 (by decide) (by decide)]; exact h.mb.who k), ⟨(s1Z 19 (by decide)).trans h.cnt.1, hX.2.1, n60, h16⟩, fun j hj => ?_, ?_, ?_, ?_, fun j hj => absurd hj (hno' j), ?_, ?_, ⟨⟨hI1.1, by rw [hI1.2, s1Z 45 (by decide)]; exact h.lg.1.2⟩, hlg⟩, ?_, ?_, ?_, fun j hj => absurd hj (hno' j), ?_, fun j hj => absurd hj (hno' j), fun j hj => absurd hj (hno' j), ?_, ?_, fun j hj h1 => absurd (show opS S' n j from ⟨hj, by omega⟩) (hno' j)⟩
  · obtain ⟨aZ, r⟩ := h.tx j hj
    have l15 := (hl j hj).1
    refine ⟨?_, (r.ofI (by rw [itx0 j hj]) (by rw [itx0 j hj]) (by rw [Nat.add_assoc]; exact itx j hj _ (by omega)) (by rw [Nat.add_assoc]; exact itx j hj _ (by omega))).ofS (fun t y _ _ => ⟨rdZ _ t y, by rw [so 236 (by decide) (by decide)]⟩)⟩
    rw [itx0 j hj, so 220 (by decide) (by decide), so 224 (by decide) (by decide), e221, so 222 (by decide) (by decide), so 225 (by decide) (by decide)]
    exact aZ
  · rw [e221, so 225 (by decide) (by decide)]; exact h.ph
  · exact h.ac.cut (fun y => Or.inl (by rw [so 225 (by decide) (by decide)]))
  · refine ⟨fun aZ bZ ha => absurd ha (hno' aZ), fun pZ p0 p1Z => ?_⟩
    rw [so 226 (by decide) (by decide)]
    exact (h.sl.2 pZ p0 p1Z).trans ⟨fun ⟨j, hj, _⟩ => absurd hj (hno j), fun ⟨j, hj, _⟩ => absurd hj (hno' j)⟩
  · obtain ⟨⟨a1Z, a2⟩, a3, a4⟩ := h.st
    refine ⟨⟨?_, a2.fr (io 1161 (by omega))⟩, a3.of (fun k => by rw [so 214 (by decide) (by decide)]) (fun k => by rw [so 215 (by decide) (by decide)]), a4.of (fun o ho => so o (by omega) (by omega))⟩
    exact (a1Z.fr (io 1161 (by omega))).ofS (fun k => by rw [so 214 (by decide) (by decide)]) (fun k => by rw [so 215 (by decide) (by decide)])
  · obtain ⟨⟨p1Z, p2Z, p3Z⟩, p4Z, p5Z, p6Z, p7Z⟩ := h.sp
    rw [io 1070 (by omega), io 1071 (by omega), io 1064 (by omega), so 217 (by decide) (by decide), so 218 (by decide) (by decide), so 224 (by decide) (by decide), s1Z 16 (by decide), s1Z 45 (by decide)]
    exact ⟨⟨p1Z, p2Z, p3Z⟩, ⟨p4Z.1, p4Z.2.1, by omega⟩, p5Z, p6Z, p7Z⟩
  · refine ⟨fun r r0 r1 => ?_, fun r hr => ?_⟩
    · by_cases eZ : r < N
      · obtain ⟨o1, o2, -⟩ := oldZ r eZ
        rw [o1, o2]
        exact h.lr.1 r r0 eZ
      · obtain ⟨o1, o2⟩ := newZ r (by omega) r1
        rw [o2]
        exact ⟨by omega, fun _ => by omega⟩
    · by_cases eZ : (N : Int) ≤ r ∧ r < ((N + L.length : Nat) : Int)
      · have := (newZ r eZ.1 eZ.2).1
        omega
      · obtain ⟨o1, -, o3Z, o4Z⟩ := hX.2.2.1 r (by omega)
        rw [o1] at hr
        rw [o3Z, o4Z]
        exact h.lr.2 r hr
  · refine ⟨fun j hj => absurd hj (hno' j), fun j hj => ?_⟩
    rw [e221]
    refine (h.lo.2 j hj).trans ⟨fun ⟨r, r0, r1, aZ, bZ⟩ => ⟨r, r0, by omega, by rw [(oldZ r r1).1]; exact aZ, by rw [(oldZ r r1).2.1]; exact bZ⟩, fun ⟨r, r0, r1, aZ, bZ⟩ => ?_⟩
    by_cases eZ : r < N
    · exact ⟨r, r0, eZ, by rw [← (oldZ r eZ).1]; exact aZ, by rw [← (oldZ r eZ).2.1]; exact bZ⟩
    · have := (newZ r (by omega) r1).1
      omega
  · intro r pZ r0 hrp p1Z hr hp
    have pN : pZ < N := by
      refine Classical.byContradiction (fun z => ?_)
      have := (newZ pZ (by omega) p1Z).1
      omega
    rw [(oldZ pZ pN).1] at hp
    rw [(oldZ r (by omega)).1] at hr
    rw [(oldZ pZ pN).2.1, (oldZ r (by omega)).2.1]
    exact h.le r pZ r0 hrp pN hr hp
  · refine ⟨fun z z0 z1 => ?_, fun j hj => absurd hj (hno' j)⟩
    rw [io 1069 (by omega)]
    rcases h.wr.1 z z0 z1 with aZ | ⟨j, hj, _⟩
    · exact Or.inl aZ
    · exact absurd hj (hno j)
  · obtain ⟨aZ, bZ⟩ := h.v2
    refine ⟨fun j r t y hj h2 hw hlast c c0 c1Z => ?_, fun t y t0 t1 hn => ?_⟩
    · rw [e221] at h2
      have hw' := (wrZ r j t y).mp hw
      have rNZ : (r : Int) < N := by have := hw'.2.1; rw [h.cnt.2.1] at this; exact this
      rw [hf r (4 + c) (by omega) (by omega) (by omega)]
      have eZ := aZ j r t y hj h2 hw' (fun pZ k hp hk hk2 z => hlast pZ k hp hk (by rw [e221]; exact hk2) ((wrZ pZ k t y).mpr z)) c c0 c1Z
      rw [eZ]
      unfold rwCell rwFind rwF
      rw [io 1161 (by omega)]
    · have eZ := bZ t y t0 t1 (fun pZ k hk hk2 z => hn pZ k hk (by rw [e221]; exact hk2) ((wrZ pZ k t y).mpr z))
      unfold rwFind rwF at *
      rw [io 1161 (by omega)]
      exact eZ
  · rw [so 233 (by decide) (by decide), so 234 (by decide) (by decide)]
    exact h.rd
end
