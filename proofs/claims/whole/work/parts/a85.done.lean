/-! a write is done: the relation behind it -/
section
variable {I S W I' S' : IT} {n N g g' : Nat} {lv mv mv' : Nat → Nat} {q : Int}
theorem fpO_inj {t y t' y' : Int} (ht : 0 ≤ t ∧ t < 6) (hy : -1000 ≤ y ∧ y ≤ 1000) (ht' : 0 ≤ t' ∧ t' < 6) (hy' : -1000 ≤ y' ∧ y' ≤ 1000) (e : fpO t y = fpO t' y') : t = t' ∧ y = y' := by
  have a := (fpO_in ht hy).1
  have b := (fpO_in ht' hy').1
  omega
theorem wrM_mem {i : Int} {L : List (Int × Int)} {x : Rc} (h : x ∈ wrM i L) : x.1 = 0 ∧ x.2.1 = i ∧ (x.2.2.1, x.2.2.2) ∈ L := by
  unfold wrM at h
  obtain ⟨z, hz, e⟩ := List.mem_map.mp h
  rw [← e]
  exact ⟨rfl, rfl, hz⟩
/-- the class's numbers behind a write that is done -/
def DonI (I I' : IT) (i : Nat) (l m m' g g' N k : Nat) (L : List (Int × Int)) : Prop := (∀ o, ¬ nLg o → ¬ nTx i o → o ≠ 1069 → I' o = I o) ∧ I' 1192 0 = ((N + k : Nat) : Int) ∧ CoD (coI I i) I' i l m m' g g' N L
theorem ER.done {i s k : Nat} {S2 : IT} (h : ER I W n N g lv mv q) (hl : ∀ j, j < n → lv j < 15 ∧ mv j < 15) (hgg : g < 10 ∧ g' < 10) (hi : opS W n i) (hact : W 221 i = 0) (hs : W 223 i = s)
    (hk : trL I k = wtL W k) (hr : ∀ x ∈ wtL W k, (0 ≤ x.1 ∧ x.1 < 6) ∧ -1000 ≤ x.2 ∧ x.2 ≤ 1000) (hno : owF I i k = -1)
    (hX : MlX W S2 N (wrM i (wtL W k))) (hN : N + k ≤ 16384) (hD : DonI I I' i (lv i) (mv i) (mv' i) g g' N k (trL I k)) (hmv : ∀ j, j ≠ i → mv' j = mv j)
    (hE : RowEq I 1129 S' s) (hW : RWc I 1129) (hm : RWm S' s) (hc : ∀ t ρ, 0 ≤ t → t < 6 → mIn S' s t ρ → rowOk W t ρ) (hsl : SlF W S' s) (hfr : ∀ o k, o ≠ 214 → o ≠ 215 → S' o k = S2 o k) (hU : ∀ t ρ, 0 ≤ t → t < 6 → (t, ρ.1) ∉ wtL W k → (mIn S' s t ρ ↔ mIn W s t ρ)) (hb14 : ∀ z, 0 ≤ S' 214 z ∧ S' 214 z ≤ 8) :
    ER I' S' n (N + k) g' lv mv' q := by
  obtain ⟨c1, cl0, ⟨cx, ⟨ck, c13, c33, c40, c60⟩, cw, cf, c17⟩⟩ := hD
  have n60 := h.cnt.2.2.1
  have h44 := h.cnt.2.1
  have i60 : i < 60 := by have := hi.1; omega
  have l15 := hl i hi.1
  have lenL : (wrM i (wtL W k)).length = k := by unfold wrM; rw [List.length_map, wtL_len]
  have x0 : 2000 ≤ tX i ∧ tX i + 128 ≤ 10000 := by unfold tX; omega
  -- copied rows alone differ from I
  have co := fun o (ho : o ≠ tX i + 33) => coI_o (I := I) (i := i) ho
  have co33 : ∀ z, 0 ≤ z → z < 192 → coI I i (tX i + 33) z = I 1129 z := fun z z0 z1 => by
    unfold coI cpyI
    rw [if_pos ⟨rfl, z0, by omega⟩]; congr 1; omega
  have fo : ∀ o, (o < 214 ∨ (215 < o ∧ o < 246) ∨ 249 < o) → o ≠ 100 → S' o = W o := fun o a b => funext (fun k => (hfr o k (by omega) (by omega)).trans (hX.1 o k (by omega) (Or.inl b)))
  have f1 : ∀ k, k ≠ 44 → S' 100 k = W 100 k := fun k hk => (hfr 100 k (by decide) (by decide)).trans (hX.1 100 k (by omega) (Or.inr hk))
  have fl : ∀ o, 246 ≤ o → o ≤ 249 → S' o = S2 o := fun o a b => funext (fun k => hfr o k (by omega) (by omega))
  have e44 : S' 100 44 = ((N + k : Nat) : Int) := by rw [hfr 100 44 (by decide) (by decide), hX.2.1, lenL]
  have e221 := fo 221 (by omega) (by decide)
  have e223 := fo 223 (by omega) (by decide)
  have e225 := fo 225 (by omega) (by decide)
  have hop : ∀ j, opS S' n j ↔ opS W n j := fun j => by unfold opS; rw [e221]
  -- class side frames
  have fx : ∀ o, erI o → o ≠ 1192 → o ≠ 1069 → I' o = I o := fun o ho h2 h3 => c1 o (by unfold erI at ho; unfold nLg; omega) (by unfold erI at ho; unfold nTx tX; omega) h3
  have oth : ∀ j, j < n → j ≠ i → ∀ a, a < 128 → I' (tX j + a) = I (tX j + a) := fun j hj hji a ha => c1 _ (by unfold nLg tX; omega) (by unfold nTx tX; omega) (by unfold tX; omega)
  have oth0 : ∀ j, j < n → j ≠ i → I' (tX j) = I (tX j) := fun j hj hji => by have := oth j hj hji 0 (by decide); rwa [Nat.add_zero] at this
  have own0 : ∀ k, k ≠ 17 → I' (tX i) k = I (tX i) k := fun k hk => (ck k hk).trans (by rw [co (tX i) (by omega)])
  have cI69 : coI I i 1069 = I 1069 := co 1069 (by omega)
  rw [cI69] at cw cf
  have cI17 : coI I i (tX i) 17 = I (tX i) 17 := by rw [co (tX i) (by omega)]
  rw [cI17] at c17
  have fpI : ∀ z, FpS (coI I i) i (mv i) z ↔ FpS I i (mv i) z := fun z => by
    unfold FpS
    rw [cI17, co (tX i + 80 + mv i) (by omega)]
  have lgI : ∀ r f, lgF (coI I i) g r f = lgF I g r f := fun r f => by unfold lgF; rw [co _ (by omega)]
  have memz : ∀ t y, 0 ≤ t → t < 6 → -1000 ≤ y → y ≤ 1000 → ((∃ x ∈ trL I k, fpO x.1 x.2 = fpO t y) ↔ (t, y) ∈ wtL W k) := fun t y t0 t1 y0 y1 => by
    rw [hk]
    constructor
    · rintro ⟨x, hx, e⟩
      have rx := hr x hx
      have := fpO_inj rx.1 rx.2 ⟨t0, t1⟩ ⟨y0, y1⟩ e
      rw [show (t, y) = x from Prod.ext this.1.symm this.2.symm]; exact hx
    · intro hx
      exact ⟨_, hx, rfl⟩
  -- nobody else has written what is written now
  have free : ∀ x ∈ trL I k, I 1069 (fpO x.1 x.2) = -1 ∨ I 1069 (fpO x.1 x.2) = i := fun x hx => by
    obtain ⟨j, hj⟩ := List.mem_iff_getElem?.mp hx
    have jk : j < k := by have := (List.getElem?_eq_some_iff.mp hj).1; rwa [trL_len] at this
    rw [trL_get jk] at hj
    have ex := Option.some.inj hj
    have rx := hr x (hk ▸ hx)
    have fi := fpO_in rx.1 rx.2
    unfold owF at hno
    have hfs : fs (owG I i) 0 k = -1 := Classical.byContradiction (fun z => by
      rw [if_neg z] at hno
      rcases fs_fst (g := owG I i) k 0 with w | ⟨w0, w1, w2⟩
      · exact z w
      · exact w2.1 hno)
    have ng : ¬ owG I i j := fun z => by
      rcases fs_some (g := owG I i) k 0 j (by omega) (by omega) z with w | w
      · exact w hfs
      · omega
    have eJ : owJ I j = I 1069 (fpO x.1 x.2) := by
      unfold owJ
      rw [show I 1102 (j : Int) = x.1 from congrArg Prod.fst ex, show I 1103 (j : Int) = x.2 from congrArg Prod.snd ex, if_neg (by omega)]
    unfold owG at ng
    rw [eJ] at ng
    by_cases e : I 1069 (fpO x.1 x.2) = -1
    · exact Or.inl e
    · exact Or.inr (Classical.byContradiction (fun w => ng ⟨e, w⟩))
  have w69 : ∀ t y, 0 ≤ t → t < 6 → -1000 ≤ y → y ≤ 1000 → ((t, y) ∈ wtL W k → I' 1069 (fpO t y) = i ∧ (I 1069 (fpO t y) = -1 ∨ I 1069 (fpO t y) = i)) ∧ ((t, y) ∉ wtL W k → I' 1069 (fpO t y) = I 1069 (fpO t y)) := fun t y t0 t1 y0 y1 => by
    refine ⟨fun hx => ⟨(cw _).1 ((memz t y t0 t1 y0 y1).mpr hx), free (t, y) (hk ▸ hx)⟩, fun hx => (cw _).2 (fun z => hx ((memz t y t0 t1 y0 y1).mp z))⟩
  -- the records of a row
  have recs : ∀ r j t y, wrR S' r j t y ↔ wrR W r j t y ∨ ((N : Int) ≤ r ∧ r < ((N + k : Nat) : Int) ∧ j = i ∧ ∃ u : Nat, u < k ∧ r = ((N + u : Nat) : Int) ∧ (wtL W k)[u]? = some (t, y)) := fun r j t y => by
    unfold wrR
    rw [fl 246 (by decide) (by decide), fl 247 (by decide) (by decide), fl 248 (by decide) (by decide), fl 249 (by decide) (by decide), e44, h44]
    constructor
    · rintro ⟨r0, r1, r2, r3, r4, r5⟩
      by_cases c : r < N
      · have u := hX.2.2.1 r (by omega)
        rw [u.1] at r2; rw [u.2.1] at r3; rw [u.2.2.1] at r4; rw [u.2.2.2] at r5
        exact Or.inl ⟨r0, c, r2, r3, r4, r5⟩
      · have hj : (r - N).toNat < k := by omega
        have gx : (wrM i (wtL W k))[(r - N).toNat]? = some (0, (i : Int), W 242 (((r - N).toNat : Nat) : Int), W 243 (((r - N).toNat : Nat) : Int)) := by
          unfold wrM
          rw [List.getElem?_map, wtL_get hj]; rfl
        have u := hX.2.2.2 (r - N).toNat _ gx
        rw [show ((N + (r - N).toNat : Nat) : Int) = r by omega] at u
        refine Or.inr ⟨by omega, r1, r3.symm.trans u.2.1, (r - N).toNat, hj, by omega, ?_⟩
        rw [wtL_get hj, ← r4, ← r5, u.2.2.1, u.2.2.2]
    · rintro (⟨r0, r1, r2, r3, r4, r5⟩ | ⟨r0, r1, rfl, u, hu, rfl, hx⟩)
      · have u := hX.2.2.1 r (by omega)
        exact ⟨r0, by omega, u.1.trans r2, u.2.1.trans r3, u.2.2.1.trans r4, u.2.2.2.trans r5⟩
      · have hy : (wrM (i : Int) (wtL W k))[u]? = some (0, (i : Int), t, y) := by
          unfold wrM
          rw [List.getElem?_map, hx]; rfl
        have v := hX.2.2.2 u _ hy
        exact ⟨by omega, r1, v.1, v.2.1, v.2.2.1, v.2.2.2⟩
  have newW : ∀ r : Int, (N : Int) ≤ r → r < ((N + k : Nat) : Int) → S2 246 r = 0 ∧ S2 247 r = i ∧ (S2 248 r, S2 249 r) ∈ wtL W k := fun r r0 r1 => by
    obtain ⟨x, hx, e1, e2, e3, e4⟩ := new_rec hX (r := r) r0 (by rw [lenL]; exact r1)
    obtain ⟨m1, m2, m3⟩ := wrM_mem hx
    exact ⟨e1.trans m1, e2.trans m2, by rw [e3, e4]; exact m3⟩
  have r33 : ∀ z, 0 ≤ z → z < 192 → I' (tX i + 33) z = I 1129 z := fun z z0 z1 => by rw [c33]; exact co33 z z0 z1
  have rds : ∀ j : Int, ∀ t y, mRead S' j t y ↔ mRead W j t y := fun j t y => by
    unfold mRead
    rw [fo 233 (by omega) (by decide), fo 234 (by omega) (by decide), fo 235 (by omega) (by decide), fo 236 (by omega) (by decide)]
  have hmW : RWm W s := by have := (h.own i hi).2.1; rwa [hs] at this
  have othS : ∀ p : Int, p ≠ s → RWm W p → (∀ t ρ, 0 ≤ t → t < 6 → (mIn S' p t ρ ↔ mIn W p t ρ)) ∧ RWm S' p := fun p hp hw => hsl.oth hp hw
  have okS : ∀ t ρ, rowOk S' t ρ ↔ rowOk W t ρ := fun t ρ => rowOk_of (fun k => congrFun (fo 202 (by omega) (by decide)) k) (fun k => congrFun (fo 203 (by omega) (by decide)) k) (fun k => congrFun (fo 204 (by omega) (by decide)) k) (fun k => congrFun (fo 205 (by omega) (by decide)) k)
  have s4 : (s : Int) ≠ 4 := by have := h.mb.pla i; omega
  have cellU : ∀ t y c, 0 ≤ t → t < 6 → 0 ≤ c → c < 4 → (t, y) ∉ wtL W k → rwCell I' (tX i + 33) t y c = rwCell I (tX i + 33) t y c := fun t y c t0 t1 c0 c'1 hx => by
    obtain ⟨⟨o1, o2⟩, o3, -⟩ := h.own i hi
    rw [hs] at o1 o3
    have E' : RowEq I' (tX i + 33) S' s := hE.of r33
    have W' : RWc I' (tX i + 33) := hW.of r33
    rw [cell_eq E' W' hm ⟨t0, t1⟩ ⟨c0, c'1⟩, cell_eq o1 o2 o3 ⟨t0, t1⟩ ⟨c0, c'1⟩]
    -- the row with the key is the same
    have a1 := mfind_in (S := S') (s := s) (y := y) hm ⟨t0, t1⟩
    have a2 := mfind_in (S := W) (s := s) (y := y) o3 ⟨t0, t1⟩
    unfold mValue
    by_cases e : mfind W s t y = -1
    · have e' : mfind S' s t y = -1 := Classical.byContradiction (fun z => by
        obtain ⟨ρ, b1, b2⟩ := a1.mp z
        exact a2.mpr ⟨ρ, (hU t ρ t0 t1 (by rw [b2]; exact hx)).mp b1, b2⟩ e)
      rw [if_pos (Or.inr e'), if_pos (Or.inr e)]
    · obtain ⟨ρ, b1, b2⟩ := a2.mp e
      have b1' := (hU t ρ t0 t1 (by rw [b2]; exact hx)).mpr b1
      obtain ⟨r, r0, r1, r2⟩ := b1
      obtain ⟨r', r0', r1', r2'⟩ := b1'
      have k1 : mfind W s t y = r := by rw [← b2, r2]; exact mfind_at o3 ⟨t0, t1⟩ r0 r1
      have k2 : mfind S' s t y = r' := by rw [← b2, r2']; exact mfind_at hm ⟨t0, t1⟩ r0' r1'
      have yn : y ≠ -2147483648 := by rw [← b2, r2]; exact (o3.2.2 t r t0 t1 r0 r1).1
      rw [k1, k2, if_neg (fun z => z.elim yn (fun z => by omega)), if_neg (fun z => z.elim yn (fun z => by omega))]
      have := congrArg (fun ρ => g4 ρ c) (r2'.symm.trans r2)
      simp only [g4_q (f := S' 215) (b := mrow s t r') (c := c) ⟨c0, c'1⟩, g4_q (f := W 215) (b := mrow s t r) (c := c) ⟨c0, c'1⟩] at this
      exact this
  refine ⟨⟨(h.sch.1.of (fun o ho => fx o (by unfold erI; omega) (by omega) (by omega))).ofS (fun o k ho => by rcases ho with a | ⟨rfl, a⟩; exact congrFun (fo o (by omega) (by omega)) k; exact f1 k (by omega)), h.sch.2.of (fun o k ho => by rcases ho with a | ⟨rfl, a⟩; exact congrFun (fo o (by omega) (by omega)) k; exact f1 k (by omega))⟩, ?_, ⟨(f1 19 (by decide)).trans h.cnt.1, e44, n60, hN⟩, fun j hj => ?_, by rw [e221, e225]; exact h.ph, h.ac.cut (fun y => Or.inl (by rw [e225])), ⟨fun a b ha hb e => ?_, fun p p0 p1 => ?_⟩, fun j hj => ?_, ?_, ?_, ?_, ?_, ?_, ?_, ?_, ?_, ?_, ?_, ?_, ?_, ?_⟩
  · have b := h.mb
    exact b.of (f1 0 (by decide)) (f1 8 (by decide)) (f1 19 (by decide)) (fun k => congrFun (fo 201 (by omega) (by decide)) k) (fun k => congrFun (fo 202 (by omega) (by decide)) k) (fun k => congrFun (fo 206 (by omega) (by decide)) k) (fun k => congrFun (fo 211 (by omega) (by decide)) k) hb14 (fun k => congrFun e223 k) (fun k => by rw [fo 236 (by omega) (by decide)]; exact b.who k)
  · obtain ⟨t, r⟩ := h.tx j hj
    rw [show TxE I' S' j (lv j) = ((I' (tX j) 0 = j ∧ I' (tX j) 1 = S' 220 j ∧ I' (tX j) 2 = S' 224 j ∧ I' (tX j) 4 = S' 221 j ∧ I' (tX j) 5 = S' 222 j ∧ I' (tX j) 6 = S' 225 j) ∧ RdE I' S' j (lv j)) from rfl, fo 220 (by omega) (by decide), fo 224 (by omega) (by decide), e221, fo 222 (by omega) (by decide), e225]
    by_cases e : j = i
    · subst e
      rw [own0 0 (by decide), own0 1 (by decide), own0 2 (by decide), own0 4 (by decide), own0 5 (by decide), own0 6 (by decide)]
      refine ⟨t, (r.ofI (own0 13 (by decide)) (own0 14 (by decide)) (c40.trans (co _ (by omega))) (c60.trans (co _ (by omega)))).ofS (fun t y _ _ => ⟨rds _ t y, by rw [fo 236 (by omega) (by decide)]⟩)⟩
    · have l15 := (hl j hj).1
      rw [oth0 j hj e]
      refine ⟨t, (r.ofI (by rw [oth0 j hj e]) (by rw [oth0 j hj e]) (by rw [Nat.add_assoc]; exact oth j hj e _ (by omega)) (by rw [Nat.add_assoc]; exact oth j hj e _ (by omega))).ofS (fun t y _ _ => ⟨rds _ t y, by rw [fo 236 (by omega) (by decide)]⟩)⟩
  · rw [e223] at e
    exact h.sl.1 a b ((hop a).mp ha) ((hop b).mp hb) e
  · rw [fo 226 (by omega) (by decide), h.sl.2 p p0 p1, e223]
    exact ⟨fun ⟨j, a, b⟩ => ⟨j, (hop j).mpr a, b⟩, fun ⟨j, a, b⟩ => ⟨j, (hop j).mp a, b⟩⟩
  · have hj' := (hop j).mp hj
    rw [e223]
    by_cases e : j = i
    · subst e
      rw [hs]
      exact ⟨⟨hE.of r33, hW.of r33⟩, hm, fun t ρ t0 t1 hρ => (okS t ρ).mpr (hc t ρ t0 t1 hρ)⟩
    · obtain ⟨⟨a, b⟩, c, d⟩ := h.own j hj'
      have ne : W 223 j ≠ s := fun z => e (h.sl.1 j i hj' hi (z.trans hs.symm))
      obtain ⟨m1, m2⟩ := othS _ ne c
      have e33 := oth j hj'.1 e 33 (by decide)
      refine ⟨⟨fun t ρ t0 t1 => ?_, b.of (fun z _ _ => by rw [e33])⟩, m2, fun t ρ t0 t1 hρ => (okS t ρ).mpr (d t ρ t0 t1 ((m1 t ρ t0 t1).mp hρ))⟩
      rw [m1 t ρ t0 t1]
      exact (a.of (fun z _ _ => by rw [e33])) t ρ t0 t1
  · obtain ⟨⟨a, b⟩, c, d⟩ := h.st
    obtain ⟨m1, m2⟩ := othS 4 (fun z => s4 z.symm) c
    have e61 := fx 1161 (by unfold erI; omega) (by decide) (by decide)
    refine ⟨⟨fun t ρ t0 t1 => ?_, b.of (fun z _ _ => by rw [e61])⟩, m2, fun t ρ t0 t1 hρ => (okS t ρ).mpr (d t ρ t0 t1 ((m1 t ρ t0 t1).mp hρ))⟩
    rw [m1 t ρ t0 t1]
    exact (a.of (fun z _ _ => by rw [e61])) t ρ t0 t1
  · have z := h.sp
    rw [fo 217 (by omega) (by decide), fo 218 (by omega) (by decide), f1 16 (by decide), f1 45 (by decide), fo 224 (by omega) (by decide), fx 1070 (by unfold erI; omega) (by decide) (by decide), fx 1071 (by unfold erI; omega) (by decide) (by decide), fx 1064 (by unfold erI; omega) (by decide) (by decide)]
    exact ⟨z.1, ⟨z.2.1.1, z.2.1.2.1, by have := z.2.1.2.2; omega⟩, z.2.2⟩
  · refine ⟨⟨cl0, ?_⟩, ?_⟩
    · rw [cx.2.2 1 (by decide), co 1192 (by omega), f1 45 (by decide)]
      exact h.lg.1.2
    · have h0 : lgEq (coI I i) W g N := fun r hr => by rw [lgI, lgI, lgI, lgI]; exact h.lg.2 r hr
      have := lgEq_app h0 cx hX (by rw [lenL]; unfold wrL; rw [List.length_map, hk, wtL_len]) (fun j x ρ hx hρ => by
        unfold wrM at hx
        unfold wrL at hρ
        rw [hk] at hρ
        rw [List.getElem?_map] at hx hρ
        obtain ⟨a, ha, ea⟩ := Option.map_eq_some_iff.mp hx
        obtain ⟨b, hb, eb⟩ := Option.map_eq_some_iff.mp hρ
        have ab : a = b := Option.some.inj (ha.symm.trans hb)
        subst ab
        rw [← ea, ← eb]
        exact ⟨rfl, rfl, rfl, rfl⟩)
      rw [lenL] at this
      intro r hr
      rw [fl 246 (by decide) (by decide), fl 247 (by decide) (by decide), fl 248 (by decide) (by decide), fl 249 (by decide) (by decide)]
      exact this r hr
  · rw [fl 246 (by decide) (by decide), fl 247 (by decide) (by decide), fl 248 (by decide) (by decide), fl 249 (by decide) (by decide)]
    refine ⟨fun r r0 r1 => ?_, fun r hr0 => ?_⟩
    · by_cases c : r < N
      · have u := hX.2.2.1 r (by omega)
        rw [u.1, u.2.1]; exact h.lr.1 r r0 c
      · have u := newW r (by omega) r1
        rw [u.1, u.2.1]
        have := hi.1
        omega
    · by_cases c : (N : Int) ≤ r ∧ r < ((N + k : Nat) : Int)
      · exact hr _ (newW r c.1 c.2).2.2
      · have u := hX.2.2.1 r (by omega)
        rw [u.1] at hr0
        rw [u.2.2.1, u.2.2.2]; exact h.lr.2 r hr0
  · rw [fl 246 (by decide) (by decide), fl 247 (by decide) (by decide)]
    refine ⟨fun j hj r r0 r1 hw => ?_, fun j hj => ?_⟩
    · by_cases c : r < N
      · have u := hX.2.2.1 r (by omega)
        rw [u.2.1] at hw
        rw [u.1]; exact h.lo.1 j ((hop j).mp hj) r r0 c hw
      · exact Or.inl (newW r (by omega) r1).1
    · rw [e221, h.lo.2 j hj]
      constructor
      · rintro ⟨r, r0, r1, r2, r3⟩
        have u := hX.2.2.1 r (by omega)
        exact ⟨r, r0, by omega, u.1.trans r2, u.2.1.trans r3⟩
      · rintro ⟨r, r0, r1, r2, r3⟩
        by_cases c : r < N
        · have u := hX.2.2.1 r (by omega)
          exact ⟨r, r0, c, u.1.symm.trans r2, u.2.1.symm.trans r3⟩
        · have := (newW r (by omega) r1).1
          omega
  · rw [fl 246 (by decide) (by decide), fl 247 (by decide) (by decide)]
    intro r p r0 rp p1 hk0 hp
    by_cases c : p < N
    · have u := hX.2.2.1 r (by omega)
      have v := hX.2.2.1 p (by omega)
      rw [u.1] at hk0
      rw [v.1] at hp
      rw [u.2.1, v.2.1]
      exact h.le r p r0 rp c hk0 hp
    · have v := newW p (by omega) p1
      rw [v.2.1]
      intro z
      by_cases d : r < N
      · have u := hX.2.2.1 r (by omega)
        rw [u.1] at hk0
        rw [u.2.1] at z
        have := h.lo.1 i hi r r0 d z.symm
        omega
      · have := (newW r (by omega) (by omega)).1
        omega
  · intro a ha r p t y j hr1 h1 h3
    have ha' := (hop a).mp ha
    rcases (recs _ _ _ _).mp h3 with w | ⟨p0, p1, ej, u, hu, ep, hx⟩
    · rcases (recs _ _ _ _).mp h1 with v | ⟨r0, -⟩
      · exact h.l3 a ha' r p t y j hr1 v w
      · have := w.2.1
        omega
    · rcases (recs _ _ _ _).mp h1 with v | ⟨r0, r1, ea, -⟩
      · have hm := List.mem_of_getElem? hx
        have rg := hr _ hm
        have e1 := (h.wr.2 a ha' t y rg.1.1 rg.1.2 rg.2.1 rg.2.2).mpr ⟨r, v⟩
        have fr := free (t, y) (hk ▸ hm)
        have e1' : I 1069 (fpO (t, y).1 (t, y).2) = a := e1
        rw [ej]
        omega
      · rw [ej, ea]
  · refine ⟨fun z z0 z1 => ?_, fun j hj t y t0 t1 y0 y1 => ?_⟩
    · by_cases e : ∃ x ∈ trL I k, fpO x.1 x.2 = z
      · exact Or.inr ⟨i, (hop i).mpr hi, (cw z).1 e⟩
      · rw [(cw z).2 e]
        rcases h.wr.1 z z0 z1 with w | ⟨j, a, b⟩
        · exact Or.inl w
        · exact Or.inr ⟨j, (hop j).mpr a, b⟩
    · have hj' := (hop j).mp hj
      obtain ⟨wa, wb⟩ := w69 t y t0 t1 y0 y1
      by_cases e : (t, y) ∈ wtL W k
      · obtain ⟨e1, e2⟩ := wa e
        rw [e1]
        constructor
        · intro z
          obtain ⟨u, hu⟩ := List.mem_iff_getElem?.mp e
          have uk : u < k := by have := (List.getElem?_eq_some_iff.mp hu).1; rwa [wtL_len] at this
          exact ⟨((N + u : Nat) : Int), (recs _ _ _ _).mpr (Or.inr ⟨by omega, by omega, z.symm, u, uk, rfl, hu⟩)⟩
        · rintro ⟨r, hr1⟩
          rcases (recs _ _ _ _).mp hr1 with v | ⟨-, -, ej, -⟩
          · have := (h.wr.2 j hj' t y t0 t1 y0 y1).mpr ⟨r, v⟩
            omega
          · exact ej.symm
      · rw [wb e, h.wr.2 j hj' t y t0 t1 y0 y1]
        constructor
        · rintro ⟨r, v⟩
          exact ⟨r, (recs _ _ _ _).mpr (Or.inl v)⟩
        · rintro ⟨r, hr1⟩
          rcases (recs _ _ _ _).mp hr1 with v | ⟨-, -, -, u, -, -, hx⟩
          · exact ⟨r, v⟩
          · exact absurd (List.mem_of_getElem? hx) e
  · intro j hj
    have hj' := (hop j).mp hj
    obtain ⟨a, b⟩ := h.fp j hj'
    by_cases e : j = i
    · subst e
      refine ⟨fun z z0 z1 => ?_, by rw [trL_len] at c17; omega⟩
      rw [cf z, fpI, a z z0 z1]
      by_cases d : ∃ x ∈ trL I k, fpO x.1 x.2 = z
      · rw [(cw z).1 d]
        exact ⟨fun _ => rfl, fun _ => (Classical.em (I 1069 z = j)).imp id (fun w => ⟨d, w⟩)⟩
      · rw [(cw z).2 d]
        exact ⟨fun w => w.elim id (fun w => absurd w.1 d), Or.inl⟩
    · have m15 := (hl j hj'.1).2
      rw [hmv j e, oth0 j hj'.1 e]
      refine ⟨fun z z0 z1 => ?_, by omega⟩
      have e80 : I' (tX j + 80 + mv j) = I (tX j + 80 + mv j) := by rw [Nat.add_assoc]; exact oth j hj'.1 e _ (by omega)
      have : FpS I' j (mv j) z ↔ FpS I j (mv j) z := by
        unfold FpS
        rw [oth0 j hj'.1 e, e80]
      rw [this, a z z0 z1]
      by_cases d : ∃ x ∈ trL I k, fpO x.1 x.2 = z
      · rw [(cw z).1 d]
        obtain ⟨x, hx, ex⟩ := d
        have := free x hx
        rw [ex] at this
        exact ⟨fun w => by omega, fun w => absurd (by omega) e⟩
      · rw [(cw z).2 d]
  · intro j hj r t y h1 h3 c c0 c'1
    have hj' := (hop j).mp hj
    by_cases e : j = i
    · subst e
      rcases (recs _ _ _ _).mp h1 with v | ⟨r0, r1, -, u, hu, er, hx⟩
      · have rN : r < N := by have := v.2.1; omega
        have tr := h.lr.2 r v.2.2.1
        rw [v.2.2.2.2.1, v.2.2.2.2.2] at tr
        have nx : (t, y) ∉ wtL W k := fun e => by
          obtain ⟨u, hu⟩ := List.mem_iff_getElem?.mp e
          have uk : u < k := by have := (List.getElem?_eq_some_iff.mp hu).1; rwa [wtL_len] at this
          exact h3 ((N + u : Nat) : Int) (by omega) ((recs _ _ _ _).mpr (Or.inr ⟨by omega, by omega, rfl, u, uk, rfl, hu⟩))
        rw [cx.1 r (4 + c) rN (by omega) (by omega), lgI, cellU t y c tr.1.1 tr.1.2 c0 c'1 nx]
        exact h.v1 j hj' r t y v (fun p hp z => h3 p hp ((recs _ _ _ _).mpr (Or.inl z))) c c0 c'1
      · have rr : r = N + u := by omega
        subst rr
        have hw : (wrL (coI I j) j (trL I k))[u]? = some (rcR 0 j t y (fun z => rwCell (coI I j) (tX j + 33) t y z)) := by
          unfold wrL
          rw [List.getElem?_map, hk, hx]; rfl
        rw [cx.2.1 u _ hw (4 + c) (by omega) (by omega)]
        have e4 : rcR 0 j t y (fun z => rwCell (coI I j) (tX j + 33) t y z) (4 + c) = rwCell (coI I j) (tX j + 33) t y c := by
          unfold rcR
          rw [if_neg (by omega), if_neg (by omega), if_neg (by omega), if_neg (by omega), show 4 + c - 4 = c by omega]
        rw [e4]
        exact (rwCell_of c33 t y c).symm
    · have v : wrR W r j t y := ((recs _ _ _ _).mp h1).elim id (fun ⟨_, _, ej, _⟩ => absurd (by omega) e)
      have rN : r < N := by have := v.2.1; omega
      rw [cx.1 r (4 + c) rN (by omega) (by omega), lgI, rwCell_of (oth j hj'.1 e 33 (by decide))]
      exact h.v1 j hj' r t y v (fun p hp z => h3 p hp ((recs _ _ _ _).mpr (Or.inl z))) c c0 c'1
  · have e61 := fx 1161 (by unfold erI; omega) (by decide) (by decide)
    have old : ∀ (r : Int) (j : Nat) (t y : Int), W 221 j = 2 → wrR S' r j t y → wrR W r j t y := fun r j t y hj hw => ((recs _ _ _ _).mp hw).elim id (fun ⟨_, _, ej, _⟩ => by
      have e : j = i := by omega
      rw [e, hact] at hj
      omega)
    rw [e221]
    refine ⟨fun j r t y hj h21 h1 h3 c c0 c'1 => ?_, fun t y t0 t1 h1 => ?_⟩
    · have v := old r j t y h21 h1
      have rN : r < N := by have := v.2.1; omega
      rw [cx.1 r (4 + c) rN (by omega) (by omega), lgI, rwCell_of e61]
      exact h.v2.1 j r t y hj h21 v (fun p a hp ha h22 z => h3 p a hp ha h22 ((recs _ _ _ _).mpr (Or.inl z))) c c0 c'1
    · rw [(rwF_of e61 t y).2]
      exact h.v2.2 t y t0 t1 (fun p a ha h22 z => h1 p a ha h22 ((recs _ _ _ _).mpr (Or.inl z)))
  · rw [fo 233 (by omega) (by decide), fo 234 (by omega) (by decide)]; exact h.rd
  · intro j hj h1
    rw [e221] at h1
    have e : j ≠ i := fun z => by rw [z, hact] at h1; omega
    obtain ⟨p, w⟩ := h.pd j hj h1
    refine ⟨p.of ⟨fun k _ _ => by rw [oth0 j hj e], oth j hj e 13 (by decide)⟩ (fun o a b => fo o (by omega) (by omega)) (fo 201 (by omega) (by decide)) (f1 0 (by decide)), fun t y hy => ?_⟩
    exact (rds _ t y).mpr (w t y ((YS_of (S := W) (fun o a b => fo o (by omega) (by omega)) (fo 201 (by omega) (by decide)) (fo 206 (by omega) (by decide)) t y).mp hy))
end
