/-! a transaction commits: the relation -/
section
variable {I S I5 : IT} {K K' : KT} {P P' : PT} {n N g g' i : Nat} {lv mv : Nat → Nat} {q : Int}
/-- the rows that will be stored, in class and reference -/
theorem fin_eq (h : ER I S n N g lv mv q) (hi : opS S n i) {t : Int} {ρ : Rw4} (ht : 0 ≤ t ∧ t < 6) : FinC I i (tX i + 33) t ρ ↔ FinR S i N t ρ := by
  unfold FinC FinR
  rw [wb_eq h hi ht, (h.own i hi).1.1 t ρ ht.1 ht.2, h.st.1.1 t ρ ht.1 ht.2]
  constructor
  · rintro (w | w)
    · exact Or.inr ⟨w.2, w.1⟩
    · exact Or.inl ⟨w.2, w.1⟩
  · rintro (w | w)
    · exact Or.inr ⟨w.2, w.1⟩
    · exact Or.inl ⟨w.2, w.1⟩
theorem ER.commit (h : ER I S n N g lv mv q) (hl : ∀ j, j < n → lv j < 15 ∧ mv j < 15) (hgg : g < 10 ∧ g' < 10) (hi : i < n) (h0 : S 221 i < 2) (hfit : ∀ t, 0 ≤ t → t < 6 → mSz S i t N ≤ 8) (hN : N < 16384) (hNT : TxN I i (lv i) (mv i))
    (hF : Fr nLg K P (stI I i (mv i)) K' P' I5) (hX : LgX (stI I i (mv i)) I5 g g' N [rcN 1 i (-2147483648) (-2147483648)]) (hL : LgN I5 g' (N + 1)) : ER (up2 I5 1192 1 ((N + 1 : Nat) : Int)) (mCmE S i) n (N + 1) g' lv mv q := by
  have op : opS S n i := ⟨hi, h0⟩
  have n60 := h.cnt.2.2.1
  have h44 := h.cnt.2.1
  have x0 : 2000 ≤ tX i ∧ tX i + 128 ≤ 10000 := by unfold tX; omega
  have pla := h.mb.pla i
  have l15 := hl i hi
  obtain ⟨C, c16⟩ := cm_all h op
  have C' := C
  obtain ⟨d1, d2, d3, d4, d5, d6, d7⟩ := C
  have f44 : mCmI S i 100 44 = N := (d7 100 44 (by decide) (by decide) (by decide) (by decide) (Or.inr (by decide))).trans h44
  have f23 : mCmI S i 223 i = S 223 i := d7 223 i (by decide) (by decide) (by decide) (by decide) (Or.inl (by decide))
  obtain ⟨e1, e2, e21, e25, e26, e44, e45, T1, hT, eT⟩ := cme_at f44 f23
  obtain ⟨k1, k2, k3, k4, k5, k6, k7⟩ := stI_at (I := I) (i := i) (m := mv i) (by omega)
  generalize mCmI S i = T at *
  generalize mCmE S i = S' at *
  generalize stI I i (mv i) = J at *
  -- frames of the reference
  have fo : ∀ o, o ≠ 221 → o ≠ 225 → o ≠ 226 → o ≠ 100 → (o < 246 ∨ 249 < o) → o ≠ 214 → o ≠ 215 → o ≠ 217 → o ≠ 218 → S' o = S o := fun o a b c d e f g h k => funext (fun z => (e1 o z a b c d e).trans (d7 o z f g h k (Or.inl d)))
  have f1 : ∀ k, k ≠ 44 → k ≠ 45 → k ≠ 16 → S' 100 k = S 100 k := fun k a b c => (e2 k a b).trans (d7 100 k (by decide) (by decide) (by decide) (by decide) (Or.inr c))
  have eT' : ∀ o, o = 214 ∨ o = 215 ∨ o = 217 ∨ o = 218 → S' o = T o := fun o ho => funext (fun z => e1 o z (by omega) (by omega) (by omega) (by omega) (by omega))
  have s16 : S' 100 16 = S 100 16 + 1 := (e2 16 (by decide) (by decide)).trans c16
  have s21 : ∀ j : Int, S' 221 j = if j = i then 2 else S 221 j := fun j => by rw [e21, d7 221 j (by decide) (by decide) (by decide) (by decide) (Or.inl (by decide))]
  have s25 : ∀ j : Int, S' 225 j = if j = i then -1 else S 225 j := fun j => by rw [e25, d7 225 j (by decide) (by decide) (by decide) (by decide) (Or.inl (by decide))]
  have s26 : ∀ p : Int, S' 226 p = if p = S 223 i then 0 else S 226 p := fun p => by rw [e26, d7 226 p (by decide) (by decide) (by decide) (by decide) (Or.inl (by decide))]
  have e223 := fo 223 (by decide) (by decide) (by decide) (by decide) (by decide) (by decide) (by decide) (by decide) (by decide)
  have hop : ∀ j, opS S' n j ↔ opS S n j ∧ j ≠ i := fun j => by
    unfold opS
    rw [s21]
    by_cases e : j = i
    · subst e
      rw [if_pos rfl]
      exact ⟨fun z => by omega, fun z => absurd rfl z.2⟩
    · rw [if_neg (by omega)]
      exact ⟨fun z => ⟨z, e⟩, fun z => z.1⟩
  have sl4 : SlF S S' 4 := by
    unfold SlF
    rw [eT' 214 (by omega), eT' 215 (by omega)]; exact d4
  -- records
  have rc : ∀ r : Int, r ≠ N → S' 246 r = S 246 r ∧ S' 247 r = S 247 r ∧ S' 248 r = S 248 r ∧ S' 249 r = S 249 r := fun r hr => by
    have u := hT.2.2.1 r (by simp; omega)
    have d := fun o (a : 246 ≤ o) (b : o ≤ 249) => d7 o r (by omega) (by omega) (by omega) (by omega) (Or.inl (by omega))
    exact ⟨(eT 246 r (by decide) (by decide)).trans (u.1.trans (d 246 (by decide) (by decide))), (eT 247 r (by decide) (by decide)).trans (u.2.1.trans (d 247 (by decide) (by decide))), (eT 248 r (by decide) (by decide)).trans (u.2.2.1.trans (d 248 (by decide) (by decide))), (eT 249 r (by decide) (by decide)).trans (u.2.2.2.trans (d 249 (by decide) (by decide)))⟩
  have rN : S' 246 N = 1 ∧ S' 247 N = i := by
    have u := hT.2.2.2 0 _ rfl
    rw [Nat.add_zero] at u
    exact ⟨(eT 246 N (by decide) (by decide)).trans u.1, (eT 247 N (by decide) (by decide)).trans u.2.1⟩
  have wR : ∀ r j t y, wrR S' r j t y ↔ wrR S r j t y := fun r j t y => by
    unfold wrR
    rw [e44, h44]
    by_cases e : r = N
    · rw [e, rN.1]
      exact ⟨fun z => by omega, fun z => by omega⟩
    · obtain ⟨a, b, c, d⟩ := rc r e
      rw [a, b, c, d]
      exact ⟨fun z => ⟨z.1, by omega, z.2.2⟩, fun z => ⟨z.1, by omega, z.2.2⟩⟩
  -- frames of the class
  have u2 : ∀ o, o ≠ 1192 → up2 I5 1192 1 ((N + 1 : Nat) : Int) o = I5 o := fun o a => funext (fun k => up2_o _ _ _ _ a)
  have uJ : ∀ o, ¬ nLg o → up2 I5 1192 1 ((N + 1 : Nat) : Int) o = J o := fun o a => (u2 o (fun z => a (Or.inl z))).trans (hF o a).2.2
  have uI : ∀ o, ¬ nLg o → o ≠ 1161 → o ≠ 1064 → o ≠ 1070 → o ≠ 1071 → o ≠ 1069 → o ≠ tX i → up2 I5 1192 1 ((N + 1 : Nat) : Int) o = I o := fun o a b c d e f g => (uJ o a).trans (k1 o b c d e f g)
  have uL : ∀ (r : Int) f, lgF (up2 I5 1192 1 ((N + 1 : Nat) : Int)) g' r f = lgF I5 g' r f := fun r f => by unfold lgF; rw [u2 _ (by omega)]
  have JL : ∀ (r : Int) f, lgF J g r f = lgF I g r f := fun r f => by unfold lgF; rw [k1 _ (by omega) (by omega) (by omega) (by omega) (by omega) (by omega)]
  have fx : ∀ o, erI o → o ≠ 1192 → o ≠ 1069 → o ≠ 1161 → o ≠ 1064 → o ≠ 1070 → o ≠ 1071 → up2 I5 1192 1 ((N + 1 : Nat) : Int) o = I o := fun o ho a b c d e f => uI o (by unfold erI at ho; unfold nLg; omega) c d e f b (by unfold erI at ho; omega)
  have txo : ∀ j, j < n → ∀ b, b < 128 → tX j + b ≠ tX i → up2 I5 1192 1 ((N + 1 : Nat) : Int) (tX j + b) = I (tX j + b) := fun j hj b hb hne => uI _ (by unfold nLg tX; omega) (by unfold tX; omega) (by unfold tX; omega) (by unfold tX; omega) (by unfold tX; omega) (by unfold tX; omega) hne
  have own : ∀ z, up2 I5 1192 1 ((N + 1 : Nat) : Int) (tX i) z = if z = 6 then -1 else if z = 4 then 2 else I (tX i) z := fun z => by rw [uJ _ (by unfold nLg; omega)]; exact k7 z
  have txk : ∀ j, j < n → ∀ k, k ≠ 4 → k ≠ 6 → up2 I5 1192 1 ((N + 1 : Nat) : Int) (tX j) k = I (tX j) k := fun j hj k a b => by
    by_cases e : j = i
    · subst e; rw [own, if_neg b, if_neg a]
    · have this : up2 I5 1192 1 ((N + 1 : Nat) : Int) (tX j) = I (tX j) := txo j hj 0 (by decide) (by unfold tX; omega)
      rw [this]
  have tx33 : ∀ j, j < n → up2 I5 1192 1 ((N + 1 : Nat) : Int) (tX j + 33) = I (tX j + 33) := fun j hj => txo j hj 33 (by decide) (by unfold tX; omega)
  have tx80 : ∀ j, j < n → up2 I5 1192 1 ((N + 1 : Nat) : Int) (tX j + 80 + mv j) = I (tX j + 80 + mv j) := fun j hj => by
    have := (hl j hj).2
    rw [Nat.add_assoc]; exact txo j hj _ (by omega) (by unfold tX; omega)
  -- the stored rows
  obtain ⟨⟨so1, so2⟩, so3, so4⟩ := h.own i op
  obtain ⟨⟨sb1, sb2⟩, sb3, sb4⟩ := h.st
  have lst : ∀ t, 0 ≤ t → t < 6 → ∃ L : List Rw4, L.length ≤ 8 ∧ ∀ ρ, FinC I i (tX i + 33) t ρ → ρ ∈ L := fun t t0 t1 => by
    refine ⟨(List.range (T 214 (24 + t)).toNat).map (fun r : Nat => tbR T 4 t (r : Int)), ?_, fun ρ hρ => ?_⟩
    · rw [List.length_map, List.length_range]
      have := (d3 t t0 t1).1
      have := hfit t t0 t1
      omega
    · obtain ⟨r, r0, r1, e⟩ := (d1 t ρ t0 t1).mpr ((fin_eq h op ⟨t0, t1⟩).mp hρ)
      exact List.mem_map.mpr ⟨r.toNat, List.mem_range.mpr (by omega), by rw [show ((r.toNat : Nat) : Int) = r by omega]; exact e.symm⟩
  obtain ⟨pf1, pf2⟩ := pu_fin (I := I) (i := (i : Int)) (a := tX i + 33) ⟨by omega, by omega⟩ sb2 so2 lst
  have e61 : up2 I5 1192 1 ((N + 1 : Nat) : Int) 1161 = puI i (tX i + 33) 48 (rmI i 48 I) 1161 := (uJ 1161 (by unfold nLg; omega)).trans k2
  have c61 : ∀ t ρ, 0 ≤ t → t < 6 → (cIn (up2 I5 1192 1 ((N + 1 : Nat) : Int)) 1161 t ρ ↔ FinR S i N t ρ) := fun t ρ t0 t1 => by
    have : cIn (up2 I5 1192 1 ((N + 1 : Nat) : Int)) 1161 t ρ ↔ cIn (puI i (tX i + 33) 48 (rmI i 48 I)) 1161 t ρ := by unfold cIn; rw [e61]
    rw [this, pf1 t ρ t0 t1, fin_eq h op ⟨t0, t1⟩]
  have w61 : RWc (up2 I5 1192 1 ((N + 1 : Nat) : Int)) 1161 := by unfold RWc at *; rw [e61]; exact pf2
  have m61 : ∀ t ρ, 0 ≤ t → t < 6 → (mIn S' 4 t ρ ↔ FinR S i N t ρ) := fun t ρ t0 t1 => by
    rw [← show _ ↔ FinR S i N t ρ from d1 t ρ t0 t1]
    unfold mIn tIn tbR
    rw [eT' 214 (by omega), eT' 215 (by omega), show (6 * 4 + t : Int) = 24 + t by omega]
  have okS : ∀ t ρ, rowOk S' t ρ ↔ rowOk S t ρ := fun t ρ => rowOk_of (fun k => by rw [fo 202 (by decide) (by decide) (by decide) (by decide) (by decide) (by decide) (by decide) (by decide) (by decide)]) (fun k => by rw [fo 203 (by decide) (by decide) (by decide) (by decide) (by decide) (by decide) (by decide) (by decide) (by decide)]) (fun k => by rw [fo 204 (by decide) (by decide) (by decide) (by decide) (by decide) (by decide) (by decide) (by decide) (by decide)]) (fun k => by rw [fo 205 (by decide) (by decide) (by decide) (by decide) (by decide) (by decide) (by decide) (by decide) (by decide)])
  have rds : ∀ j : Int, ∀ t y, mRead S' j t y ↔ mRead S j t y := fun j t y => by
    unfold mRead
    rw [fo 233 (by decide) (by decide) (by decide) (by decide) (by decide) (by decide) (by decide) (by decide) (by decide), fo 234 (by decide) (by decide) (by decide) (by decide) (by decide) (by decide) (by decide) (by decide) (by decide), fo 235 (by decide) (by decide) (by decide) (by decide) (by decide) (by decide) (by decide) (by decide) (by decide), fo 236 (by decide) (by decide) (by decide) (by decide) (by decide) (by decide) (by decide) (by decide) (by decide)]
  -- footprints and what was written
  have fpw : ∀ t y, 0 ≤ t → t < 6 → -1000 ≤ y → y ≤ 1000 → (FpS I i (mv i) (2001 * t + y + 1000) ↔ Wm S i N t y) := fun t y t0 t1 y0 y1 => by
    obtain ⟨fe, f0, f1⟩ := fpO_in ⟨t0, t1⟩ ⟨y0, y1⟩
    rw [← fe, (h.fp i op).1 _ f0 f1, h.wr.2 i op t y t0 t1 y0 y1]
    constructor
    · rintro ⟨r, r0, r1, r2⟩
      exact ⟨r.toNat, by omega, by rw [show ((r.toNat : Nat) : Int) = r by omega]; exact r2⟩
    · rintro ⟨r, r1, r2⟩
      exact ⟨r, by omega, by omega, r2⟩
  have wmr : ∀ t y, Wm S i N t y → (0 ≤ t ∧ t < 6) ∧ -1000 ≤ y ∧ y ≤ 1000 := fun t y ⟨r, r1, r2, r3, r4, r5⟩ => by
    have := h.lr.2 r r2
    rw [r4, r5] at this
    exact this
  have fpz : ∀ x, FpS I i (mv i) x → 0 ≤ x ∧ x < 12006 := fun x hx => by
    obtain ⟨p, p0, p1, p2⟩ := hx
    rw [← p2]; exact hNT.2.2.2.2 p p0 p1
  have fpt : ∀ t, 0 ≤ t → t < 6 → ((∃ x, FpS I i (mv i) x ∧ x / 2001 = t) ↔ ∃ y, Wm S i N t y) := fun t t0 t1 => by
    constructor
    · rintro ⟨x, hx, e⟩
      have := fpz x hx
      exact ⟨x % 2001 - 1000, (fpw t _ t0 t1 (by omega) (by omega)).mp (by rw [show 2001 * t + (x % 2001 - 1000) + 1000 = x by omega]; exact hx)⟩
    · rintro ⟨y, hy⟩
      have r := wmr t y hy
      exact ⟨_, (fpw t y t0 t1 r.2.1 r.2.2).mpr hy, by omega⟩
  have w69 : ∀ z, 0 ≤ z → z < 12006 → up2 I5 1192 1 ((N + 1 : Nat) : Int) 1069 z = if I 1069 z = i then -1 else I 1069 z := fun z z0 z1 => by
    rw [uJ 1069 (by unfold nLg; omega)]
    have hfp := (h.fp i op).1 z z0 z1
    by_cases e : I 1069 z = i
    · rw [if_pos e]; exact (k6 z).1 (hfp.mpr e)
    · rw [if_neg e]; exact (k6 z).2 (fun y => e (hfp.mp y))
  have sp := h.sp
  obtain ⟨⟨sp1, sp2, sp3⟩, ⟨sp4, sp5, sp6⟩, sp7, sp8, sp9⟩ := sp
  have e17 := eT' 217 (by omega)
  have e18 := eT' 218 (by omega)
  have i64 : up2 I5 1192 1 ((N + 1 : Nat) : Int) 1064 7 = S 100 16 + 1 := by rw [uJ 1064 (by unfold nLg; omega), k3, if_pos rfl, sp3]
  refine ⟨⟨(h.sch.1.of (fun o ho => fx o (by unfold erI; omega) (by omega) (by omega) (by omega) (by omega) (by omega) (by omega))).ofS (fun o k ho => by rcases ho with a | ⟨rfl, a⟩; exact congrFun (fo o (by omega) (by omega) (by omega) (by omega) (by omega) (by omega) (by omega) (by omega) (by omega)) k; exact f1 k (by omega) (by omega) (by omega)), h.sch.2.of (fun o k ho => by rcases ho with a | ⟨rfl, a⟩; exact congrFun (fo o (by omega) (by omega) (by omega) (by omega) (by omega) (by omega) (by omega) (by omega) (by omega)) k; exact f1 k (by omega) (by omega) (by omega))⟩, ?_, ⟨(f1 19 (by decide) (by decide) (by decide)).trans h.cnt.1, e44, n60, by omega⟩, fun j hj => ?_, fun j hj => ?_, h.ac.cut (fun y => ?_), ⟨fun j k hj hk e => ?_, fun p p0 p1 => ?_⟩, fun j hj => ?_, ⟨⟨fun t ρ t0 t1 => (c61 t ρ t0 t1).trans (m61 t ρ t0 t1).symm, w61⟩, ?_, fun t ρ t0 t1 hρ => ?_⟩, ⟨⟨fun z z0 z1 => ?_, fun t t0 t1 => ?_, i64.trans s16.symm⟩, ⟨by omega, by omega, by omega⟩, fun t y t0 t1 y0 y1 => ?_, fun t t0 t1 => ?_, fun j hj => ?_⟩, ⟨⟨?_, ?_⟩, ?_⟩, ⟨fun r r0 r1 => ?_, fun r hr => ?_⟩, ⟨fun j hj r r0 r1 hw => ?_, fun j hj => ?_⟩, ?_, ?_, ⟨fun z z0 z1 => ?_, fun j hj t y t0 t1 y0 y1 => ?_⟩, fun j hj => ?_, fun j hj r t y h1 h3 c c0 c'1 => ?_, ⟨fun j r t y hj h21 h1 h3 c c0 c'1 => ?_, fun t y t0 t1 h1 => ?_⟩, ?_, fun j hj h1 => ?_⟩
  · -- mb
    have b := h.mb
    refine b.of (f1 0 (by decide) (by decide) (by decide)) (f1 8 (by decide) (by decide) (by decide)) (f1 19 (by decide) (by decide) (by decide)) (fun k => congrFun (fo 201 (by decide) (by decide) (by decide) (by decide) (by decide) (by decide) (by decide) (by decide) (by decide)) k) (fun k => congrFun (fo 202 (by decide) (by decide) (by decide) (by decide) (by decide) (by decide) (by decide) (by decide) (by decide)) k) (fun k => congrFun (fo 206 (by decide) (by decide) (by decide) (by decide) (by decide) (by decide) (by decide) (by decide) (by decide)) k) (fun k => congrFun (fo 211 (by decide) (by decide) (by decide) (by decide) (by decide) (by decide) (by decide) (by decide) (by decide)) k) (fun k => ?_) (fun k => congrFun e223 k) (fun k => by rw [fo 236 (by decide) (by decide) (by decide) (by decide) (by decide) (by decide) (by decide) (by decide) (by decide)]; exact b.who k)
    by_cases c : 24 ≤ k ∧ k < 30
    · rw [eT' 214 (by omega)]
      obtain ⟨x1, x2⟩ := d3 (k - 24) (by omega) (by omega)
      have := hfit (k - 24) (by omega) (by omega)
      rw [show 24 + (k - 24) = k by omega] at x1 x2
      omega
    · rw [sl4.1 k (by omega)]; exact b.row k
  · -- tx
    obtain ⟨t, r⟩ := h.tx j hj
    have l15 := (hl j hj).1
    refine ⟨?_, (r.ofI (txk j hj 13 (by decide) (by decide)) (txk j hj 14 (by decide) (by decide)) (by rw [Nat.add_assoc]; exact txo j hj _ (by omega) (by unfold tX; omega)) (by rw [Nat.add_assoc]; exact txo j hj _ (by omega) (by unfold tX; omega))).ofS (fun t y _ _ => ⟨rds _ t y, by rw [fo 236 (by decide) (by decide) (by decide) (by decide) (by decide) (by decide) (by decide) (by decide) (by decide)]⟩)⟩
    rw [txk j hj 0 (by decide) (by decide), txk j hj 1 (by decide) (by decide), txk j hj 2 (by decide) (by decide), txk j hj 5 (by decide) (by decide), fo 220 (by decide) (by decide) (by decide) (by decide) (by decide) (by decide) (by decide) (by decide) (by decide), fo 224 (by decide) (by decide) (by decide) (by decide) (by decide) (by decide) (by decide) (by decide) (by decide), fo 222 (by decide) (by decide) (by decide) (by decide) (by decide) (by decide) (by decide) (by decide) (by decide), s21, s25]
    by_cases e : j = i
    · subst e
      rw [own, own, if_pos rfl, if_pos rfl, if_neg (by decide), if_pos rfl, if_pos rfl]
      exact ⟨t.1, t.2.1, t.2.2.1, rfl, t.2.2.2.2.1, rfl⟩
    · have ne : up2 I5 1192 1 ((N + 1 : Nat) : Int) (tX j) = I (tX j) := txo j hj 0 (by decide) (by unfold tX; omega)
      rw [if_neg (by omega), if_neg (by omega), ne]
      exact t
  · -- ph
    rw [s21, s25]
    by_cases e : j = i
    · rw [if_pos (by omega), if_pos (by omega)]
      exact ⟨by omega, fun z => by omega, fun _ => rfl⟩
    · rw [if_neg (by omega), if_neg (by omega)]; exact h.ph j hj
  · rw [s25]
    by_cases e : y = (i : Int)
    · rw [if_pos e]; exact Or.inr rfl
    · rw [if_neg e]; exact Or.inl rfl
  · rw [e223] at e
    exact h.sl.1 j k ((hop j).mp hj).1 ((hop k).mp hk).1 e
  · rw [s26, e223]
    by_cases e : p = S 223 i
    · rw [if_pos e]
      refine ⟨fun z => absurd rfl z, ?_⟩
      rintro ⟨j, hj, e2⟩
      have hj' := (hop j).mp hj
      exact absurd (h.sl.1 j i hj'.1 op (e2.trans e)) hj'.2
    · rw [if_neg e, h.sl.2 p p0 p1]
      constructor
      · rintro ⟨j, hj, e2⟩
        exact ⟨j, (hop j).mpr ⟨hj, fun z => e (by rw [← e2, z])⟩, e2⟩
      · rintro ⟨j, hj, e2⟩
        exact ⟨j, ((hop j).mp hj).1, e2⟩
  · -- own
    obtain ⟨hj', -⟩ := (hop j).mp hj
    obtain ⟨⟨a, b⟩, c, d⟩ := h.own j hj'
    have pj := h.mb.pla j
    obtain ⟨m1, m2⟩ := sl4.oth (q := S 223 j) (by omega) c
    rw [e223]
    have e33 := tx33 j hj'.1
    refine ⟨⟨fun t ρ t0 t1 => ?_, b.of (fun z _ _ => by rw [e33])⟩, m2, fun t ρ t0 t1 hρ => (okS t ρ).mpr (d t ρ t0 t1 ((m1 t ρ t0 t1).mp hρ))⟩
    rw [m1 t ρ t0 t1]
    exact (a.of (fun z _ _ => by rw [e33])) t ρ t0 t1
  · -- stored: in order
    refine ⟨fun t t0 t1 => ?_, fun t r x t0 t1 r0 r1 x0 x1 hx => ?_, fun t r t0 t1 r0 r1 => ?_⟩
    · rw [show (6 * 4 + t : Int) = 24 + t by omega, eT' 214 (by omega)]
      obtain ⟨x1, x2⟩ := d3 t t0 t1
      have := hfit t t0 t1
      omega
    · rw [show (6 * 4 + t : Int) = 24 + t by omega, eT' 214 (by omega)] at r1 x1
      rw [eT' 215 (by omega)] at hx
      exact d2 t t0 t1 r x r0 r1 x0 x1 hx
    · have hm : mIn S' 4 t (q4 (S' 215) (mrow 4 t r)) := ⟨r, r0, r1, rfl⟩
      rcases (m61 t _ t0 t1).mp hm with ⟨-, s, s0, s1, e⟩ | ⟨-, s, s0, s1, e⟩
      · obtain ⟨y1, y2⟩ := so3.2.2 t s t0 t1 s0 s1
        refine ⟨fun z => y1 ((congrArg Prod.fst e).symm.trans z), fun c c0 c1 => ?_⟩
        have := congrArg (fun ρ => g4 ρ c) e
        simp only [g4_q (f := S' 215) (b := mrow 4 t r) (c := c) ⟨c0, c1⟩, g4_q (f := S 215) (b := mrow (S 223 i) t s) (c := c) ⟨c0, c1⟩] at this
        rw [this]; exact y2 c c0 c1
      · obtain ⟨y1, y2⟩ := sb3.2.2 t s t0 t1 s0 s1
        refine ⟨fun z => y1 ((congrArg Prod.fst e).symm.trans z), fun c c0 c1 => ?_⟩
        have := congrArg (fun ρ => g4 ρ c) e
        simp only [g4_q (f := S' 215) (b := mrow 4 t r) (c := c) ⟨c0, c1⟩, g4_q (f := S 215) (b := mrow 4 t s) (c := c) ⟨c0, c1⟩] at this
        rw [this]; exact y2 c c0 c1
  · rcases (m61 t ρ t0 t1).mp hρ with w | w
    · exact (okS t ρ).mpr (so4 t ρ t0 t1 w.2)
    · exact (okS t ρ).mpr (sb4 t ρ t0 t1 w.2)
  · -- stamps
    rw [uJ 1070 (by unfold nLg; omega), e17]
    have ez : 2001 * (z / 2001) + (z % 2001 - 1000) + 1000 = z := by omega
    have w := fpw (z / 2001) (z % 2001 - 1000) (by omega) (by omega) (by omega) (by omega)
    have d := d5 (z / 2001) (z % 2001 - 1000) (by omega) (by omega) (by omega) (by omega)
    rw [ez] at w d
    by_cases hw : Wm S i N (z / 2001) (z % 2001 - 1000)
    · rw [(k4 z).1 (w.mpr hw), d.1 hw, sp3]
    · rw [(k4 z).2 (fun y => hw (w.mp y)), d.2 hw, sp1 z z0 z1]
  · rw [uJ 1071 (by unfold nLg; omega), e18]
    by_cases hw : ∃ y, Wm S i N t y
    · rw [(k5 t).1 ((fpt t t0 t1).mpr hw), (d6 t t0 t1).1 hw, sp3]
    · rw [(k5 t).2 (fun y => hw ((fpt t t0 t1).mp y)), (d6 t t0 t1).2 hw, sp2 t t0 t1]
  · rw [e17, e18]
    have a := sp7 t y t0 t1 y0 y1
    have b := sp8 t t0 t1
    by_cases hw : Wm S i N t y
    · rw [(d5 t y t0 t1 y0 y1).1 hw, (d6 t t0 t1).1 ⟨y, hw⟩]; omega
    · rw [(d5 t y t0 t1 y0 y1).2 hw]
      by_cases hw2 : ∃ y, Wm S i N t y
      · rw [(d6 t t0 t1).1 hw2]; omega
      · rw [(d6 t t0 t1).2 hw2]; exact a
  · rw [e18, s16]
    have b := sp8 t t0 t1
    by_cases hw2 : ∃ y, Wm S i N t y
    · rw [(d6 t t0 t1).1 hw2]; omega
    · rw [(d6 t t0 t1).2 hw2]; omega
  · rw [fo 224 (by decide) (by decide) (by decide) (by decide) (by decide) (by decide) (by decide) (by decide) (by decide), s16]
    have := sp9 j hj
    omega
  · -- the log
    rw [up2_k _ _ _ _ (by decide)]; exact hL.1
  · rw [up2_eq, e45, h44]; omega
  · have hX' : lgEq J T g N := fun r hr => by
      have u := rc r (by omega)
      have v := h.lg.2 r hr
      have w := hT.2.2.1 r (by simp; omega)
      rw [JL, JL, JL, JL]
      have d := fun o (a : 246 ≤ o) (b : o ≤ 249) => d7 o r (by omega) (by omega) (by omega) (by omega) (Or.inl (by omega))
      rw [d 246 (by decide) (by decide), d 247 (by decide) (by decide), d 248 (by decide) (by decide), d 249 (by decide) (by decide)]
      exact v
    have a := lgEq_app hX' hX hT rfl (fun j x ρ hx hρ => by
      match j, hx, hρ with
      | 0, hx, hρ =>
        rw [← Option.some.inj hx, ← Option.some.inj hρ]
        exact ⟨rfl, rfl, rfl, rfl⟩
      | j + 1, hx, _ => simp at hx)
    intro r hr
    rw [uL, uL, uL, uL, eT 246 _ (by decide) (by decide), eT 247 _ (by decide) (by decide), eT 248 _ (by decide) (by decide), eT 249 _ (by decide) (by decide)]
    exact a r hr
  · -- records
    by_cases e : r = N
    · rw [e, rN.1, rN.2]; omega
    · obtain ⟨a, b, -⟩ := rc r e
      rw [a, b]; exact h.lr.1 r r0 (by omega)
  · by_cases e : r = N
    · rw [e, rN.1] at hr; omega
    · obtain ⟨a, -, c, d⟩ := rc r e
      rw [a] at hr
      rw [c, d]; exact h.lr.2 r hr
  · obtain ⟨hj', hne⟩ := (hop j).mp hj
    by_cases e : r = N
    · rw [e, rN.2] at hw; omega
    · obtain ⟨a, b, -⟩ := rc r e
      rw [b] at hw
      rw [a]; exact h.lo.1 j hj' r r0 (by omega) hw
  · rw [s21]
    by_cases e : j = i
    · subst e
      rw [if_pos rfl]
      exact ⟨fun _ => ⟨N, by omega, by omega, rN.1, rN.2⟩, fun _ => rfl⟩
    · rw [if_neg (by omega), h.lo.2 j hj]
      constructor
      · rintro ⟨r, r0, r1, r2, r3⟩
        obtain ⟨a, b, -⟩ := rc r (by omega)
        exact ⟨r, r0, by omega, a.trans r2, b.trans r3⟩
      · rintro ⟨r, r0, r1, r2, r3⟩
        by_cases c : r = N
        · rw [c, rN.2] at r3; omega
        · obtain ⟨a, b, -⟩ := rc r c
          exact ⟨r, r0, by omega, a.symm.trans r2, b.symm.trans r3⟩
  · intro r p r0 rp p1 hk hp
    have pN : p ≠ N := fun z => by rw [z, rN.1] at hp; omega
    obtain ⟨a, b, -⟩ := rc r (by omega)
    obtain ⟨a', b', -⟩ := rc p pN
    rw [a] at hk
    rw [a'] at hp
    rw [b, b']
    exact h.le r p r0 rp (by omega) hk hp
  · intro j hj r p t y k hr h1 h3
    exact h.l3 j ((hop j).mp hj).1 r p t y k hr ((wR _ _ _ _).mp h1) ((wR _ _ _ _).mp h3)
  · rw [w69 z z0 z1]
    by_cases e : I 1069 z = i
    · rw [if_pos e]; exact Or.inl rfl
    · rw [if_neg e]
      rcases h.wr.1 z z0 z1 with w | ⟨j, a, b⟩
      · exact Or.inl w
      · exact Or.inr ⟨j, (hop j).mpr ⟨a, fun y => e (by rw [b, y])⟩, b⟩
  · obtain ⟨hj', hne⟩ := (hop j).mp hj
    obtain ⟨-, f0, f1'⟩ := fpO_in ⟨t0, t1⟩ ⟨y0, y1⟩
    rw [w69 _ f0 f1']
    have : (∃ r, wrR S' r j t y) ↔ ∃ r, wrR S r j t y := ⟨fun ⟨r, a⟩ => ⟨r, (wR _ _ _ _).mp a⟩, fun ⟨r, a⟩ => ⟨r, (wR _ _ _ _).mpr a⟩⟩
    rw [this, ← h.wr.2 j hj' t y t0 t1 y0 y1]
    by_cases e : I 1069 (fpO t y) = i
    · rw [if_pos e, e]
      exact ⟨fun z => by omega, fun z => absurd (by omega) hne⟩
    · rw [if_neg e]
  · obtain ⟨hj', hne⟩ := (hop j).mp hj
    obtain ⟨a, b⟩ := h.fp j hj'
    rw [txk j hj'.1 17 (by decide) (by decide)]
    refine ⟨fun z z0 z1 => ?_, by omega⟩
    have : FpS (up2 I5 1192 1 ((N + 1 : Nat) : Int)) j (mv j) z ↔ FpS I j (mv j) z := by
      unfold FpS
      rw [txk j hj'.1 17 (by decide) (by decide), tx80 j hj'.1]
    rw [this, a z z0 z1, w69 z z0 z1]
    by_cases e : I 1069 z = i
    · rw [if_pos e, e]
      exact ⟨fun w => absurd (by omega) hne, fun w => by omega⟩
    · rw [if_neg e]
  · obtain ⟨hj', hne⟩ := (hop j).mp hj
    have h1' := (wR _ _ _ _).mp h1
    rw [uL, hX.1 r (4 + c) (by have := h1'.2.1; omega) (by omega) (by omega), JL, rwCell_of (tx33 j hj'.1)]
    exact h.v1 j hj' r t y h1' (fun p hp z => h3 p hp ((wR _ _ _ _).mpr z)) c c0 c'1
  · -- what is committed, in the log
    have h1' := (wR _ _ _ _).mp h1
    have tr := h.lr.2 r h1'.2.2.1
    rw [h1'.2.2.2.2.1, h1'.2.2.2.2.2] at tr
    rw [uL, hX.1 r (4 + c) (by have := h1'.2.1; omega) (by omega) (by omega), JL]
    have i2 : S' 221 i = 2 := by rw [s21, if_pos rfl]
    by_cases e : j = i
    · subst e
      have wm : Wm S j N t y := ⟨r, by have := h1'.2.1; omega, h1'.2.2.1, h1'.2.2.2.1, h1'.2.2.2.2.1, h1'.2.2.2.2.2⟩
      rw [(cell_key so2 w61 tr.1 (fun ρ hρ => (c61 t ρ tr.1.1 tr.1.2).trans ((show FinR S j N t ρ ↔ mIn S (S 223 j) t ρ from ⟨fun w => w.elim (fun w => w.2) (fun w => absurd (by rw [hρ]; exact wm) w.1), fun w => Or.inl ⟨by rw [hρ]; exact wm, w⟩⟩).trans (so1 t ρ tr.1.1 tr.1.2).symm)) ⟨c0, c'1⟩).1]
      exact h.v1 j op r t y h1' (fun p hp z => h3 p j hp hj i2 ((wR _ _ _ _).mpr z)) c c0 c'1
    · rw [s21, if_neg (by omega)] at h21
      have nw : ¬ Wm S i N t y := fun ⟨r', r1, r2, r3, r4, r5⟩ => by
        have w' : wrR S r' i t y := ⟨by omega, by omega, r2, r3, r4, r5⟩
        by_cases lt : r' < r
        · have := h.l3 i op r' r t y j (by omega) w' h1'
          omega
        · have ne : r' ≠ r := fun z => by rw [z] at r3; have := h1'.2.2.2.1; omega
          exact h3 r' i (by omega) hi i2 ((wR _ _ _ _).mpr w')
      rw [(cell_key sb2 w61 tr.1 (fun ρ hρ => (c61 t ρ tr.1.1 tr.1.2).trans ((show FinR S i N t ρ ↔ mIn S 4 t ρ from ⟨fun w => w.elim (fun w => absurd (by rw [← hρ]; exact w.1) nw) (fun w => w.2), fun w => Or.inr ⟨by rw [hρ]; exact nw, w⟩⟩).trans (sb1 t ρ tr.1.1 tr.1.2).symm)) ⟨c0, c'1⟩).1]
      exact h.v2.1 j r t y hj h21 h1' (fun p k hp hk h22 z => h3 p k hp hk (by
        rw [s21]
        by_cases w : k = i
        · rw [if_pos (by omega)]
        · rw [if_neg (by omega)]; exact h22) ((wR _ _ _ _).mpr z)) c c0 c'1
  · have i2 : S' 221 i = 2 := by rw [s21, if_pos rfl]
    have nw : ¬ Wm S i N t y := fun ⟨r', r1, r2, r3, r4, r5⟩ => h1 r' i hi i2 ((wR _ _ _ _).mpr ⟨by omega, by omega, r2, r3, r4, r5⟩)
    rw [(cell_key (c := 0) sb2 w61 ⟨t0, t1⟩ (fun ρ hρ => (c61 t ρ t0 t1).trans ((show FinR S i N t ρ ↔ mIn S 4 t ρ from ⟨fun w => w.elim (fun w => absurd (by rw [← hρ]; exact w.1) nw) (fun w => w.2), fun w => Or.inr ⟨by rw [hρ]; exact nw, w⟩⟩).trans (sb1 t ρ t0 t1).symm)) ⟨by decide, by decide⟩).2]
    exact h.v2.2 t y t0 t1 (fun p k hk h22 z => h1 p k hk (by
      rw [s21]
      by_cases w : k = i
      · rw [if_pos (by omega)]
      · rw [if_neg (by omega)]; exact h22) ((wR _ _ _ _).mpr z))
  · rw [fo 233 (by decide) (by decide) (by decide) (by decide) (by decide) (by decide) (by decide) (by decide) (by decide), fo 234 (by decide) (by decide) (by decide) (by decide) (by decide) (by decide) (by decide) (by decide) (by decide)]; exact h.rd
  · have e : j ≠ i := fun z => by rw [s21, if_pos (by omega)] at h1; omega
    rw [s21, if_neg (by omega)] at h1
    obtain ⟨p, w⟩ := h.pd j hj h1
    have ne : up2 I5 1192 1 ((N + 1 : Nat) : Int) (tX j) = I (tX j) := txo j hj 0 (by decide) (by unfold tX; omega)
    refine ⟨p.of ⟨fun k a b => by rw [ne], txo j hj 13 (by decide) (by unfold tX; omega)⟩ (fun o a b => fo o (by omega) (by omega) (by omega) (by omega) (by omega) (by omega) (by omega) (by omega) (by omega)) (fo 201 (by decide) (by decide) (by decide) (by decide) (by decide) (by decide) (by decide) (by decide) (by decide)) (f1 0 (by decide) (by decide) (by decide)), fun t y hy => ?_⟩
    exact (rds _ t y).mpr (w t y ((YS_of (S := S) (fun o a b => fo o (by omega) (by omega) (by omega) (by omega) (by omega) (by omega) (by omega) (by omega) (by omega)) (fo 201 (by decide) (by decide) (by decide) (by decide) (by decide) (by decide) (by decide) (by decide) (by decide)) (fo 206 (by decide) (by decide) (by decide) (by decide) (by decide) (by decide) (by decide) (by decide) (by decide)) t y).mp hy))
end
