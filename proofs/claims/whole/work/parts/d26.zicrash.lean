/-! a crash, a CHECK, a table: the account -/
section
variable {I S S' T : IT} {n N g k x : Nat} {lv mv : Nat → Nat} {q : Int}
theorem oS_nop {p : Nat → Prop} {f : Nat → Nat} : ∀ n : Nat, (∀ j, j < n → ¬ p j) → oS p f n = 0
  | 0, _ => rfl
  | n + 1, h => by rw [oS_n (h n (by omega))]; exact oS_nop n (fun j hj => h j (by omega))
/-- all of those under way end at once -/
theorem ZA.crash (h : ZA k (-1) S) (hd : WrD S) (e : ∀ o, (o = 201 ∨ o = 214 ∨ o = 215) → S' o = S o) (e19 : S' 100 19 = S 100 19) (e37 : S' 100 37 = S 100 37) (ho : ∀ j, j < nS S → ¬ opA S' j) (hN' : (S' 100 44).toNat ≤ (S 100 44).toNat + oS (opA S) (fun j => wN S j + 1) (nS S)) : ZA (k + 1) (-1) S' := by
  obtain ⟨Kv, E, d, b, cB, chk, hK, hE, hW, hk, hb, hN⟩ := h
  have f1 := e 201 (by omega)
  have f4 := e 214 (by omega)
  have f5 := e 215 (by omega)
  have en : nS S' = nS S := by unfold nS; rw [e19]
  have ecap : capF S' = capF S := funext (fun z => by unfold capF; rw [f1])
  have eop : ∀ f : Nat → Nat, oS (opA S') f (nS S) = 0 := fun f => oS_nop _ ho
  have ewt : oS (wtA S' (-1)) (rsv S') (nS S) = 0 := oS_nop _ (fun j hj z => z.elim (fun y => ho j hj (by unfold opA; rw [y]; decide)) (fun y => by omega))
  have a1 := oS_add (p := opA S) (f := wN S) (g := fun _ => 1) (nS S)
  have a2 := oS_add (p := opA S) (f := fun _ => 1) (g := d) (nS S)
  have i1 : oS (opA S) (wN S) (nS S) ≤ min 48 Kv.length * oS (opA S) d (nS S) + oS (opA S) b (nS S) := by
    have a := oS_le (p := opA S) (f := wN S) (g := fun j => min 48 Kv.length * d j + b j) (nS S) (fun j hj hp => (hW j hj hp).1)
    rw [oS_add (p := opA S) (f := fun j => min 48 Kv.length * d j) (g := b) (nS S), oS_mul] at a
    exact a
  have i2 : oS (opA S) (wN S) (nS S) ≤ oS (opA S) d (nS S) + oS (opA S) b (nS S) + kS (capF S) Kv := by
    have a := oS_le (p := opA S) (f := wN S) (g := fun j => (d j + b j) + kS (slk S (S 223 j) (WrK S j)) Kv) (nS S) (fun j hj hp => (hW j hj hp).2)
    rw [oS_add (p := opA S) (f := fun j => d j + b j) (g := fun j => kS (slk S (S 223 j) (WrK S j)) Kv) (nS S), oS_add (p := opA S) (f := d) (g := b) (nS S), oS_swap] at a
    have := kS_le (f := fun z => oS (opA S) (fun j => slk S (S 223 j) (WrK S j) z) (nS S)) (g := capF S) Kv (fun z _ => sl_sum hd z)
    omega
  have zk : ZK S' Kv := ⟨⟨hK.1.1, fun z hz => by rw [f1]; exact hK.1.2 z hz⟩, fun t ρ t0 t1 hρ => hK.2.1 t ρ t0 t1 ((mIn_of2 f4 f5 t ρ).mp hρ), fun j hj oj => by
    rw [en] at hj
    exact absurd oj (ho j hj)⟩
  have zw : ∀ d b, ZW S' Kv d b := fun d b j hj oj => by
    rw [en] at hj
    exact absurd oj (ho j hj)
  by_cases t0 : oS (opA S) (fun _ => 1) (nS S) = 0
  · have z1 := oS_none (f := wN S) t0
    have z2 := oS_none (f := fun j => wN S j + 1) t0
    have z3 := oS_none (f := b) t0
    refine ⟨Kv, E, d, b, cB, chk, zk, by rw [ecap]; exact hE, zw d b, ?_, ?_, ?_⟩
    · rw [ecap, en, eop, ewt, e37]; omega
    · rw [en, eop]; omega
    · rw [en, eop]; omega
  · refine ⟨Kv, (oS (opA S) (wN S) (nS S), oS (opA S) (fun _ => 1) (nS S), oS (opA S) d (nS S), oS (opA S) b (nS S)) :: E, d, b, cB, chk, zk, fun g hg => ?_, zw d b, ?_, ?_, ?_⟩
    · rw [ecap]
      rcases List.mem_cons.mp hg with z | z
      · rw [z]; exact ⟨⟨i1, i2⟩, by show 1 ≤ oS (opA S) (fun _ => 1) (nS S); omega⟩
      · exact hE g z
    · rw [ecap, en, eop, ewt, e37]
      show kS (capF S) Kv + 2 * Kv.length + cB + chk + ((oS (opA S) (fun _ => 1) (nS S) + 1 + oS (opA S) d (nS S)) + gqS gqC E) + 0 + (S 100 37).toNat + 0 ≤ k + 1
      omega
    · rw [en, eop]
      show (oS (opA S) b (nS S) + gqS gqB E) + 0 ≤ _
      omega
    · rw [en, eop]
      show _ ≤ ((2 * oS (opA S) (wN S) (nS S) + oS (opA S) (fun _ => 1) (nS S)) + gqS gqW E) + 0 + chk
      omega
theorem ZI.crashed (h : ZI k (-1) S) (hE : ER I S n N g lv mv q) (hx : S 100 45 ≤ x ∧ x ≤ N) : ZI (k + 1) (-1) (up2 (mCrR S x).1 100 45 ((mCrR S x).1 100 44)) ∧ ∀ M : Nat, (mCrR S x).1 100 44 = (M : Int) → M ≤ N + oS (opA S) (fun j => wN S j + 1) n := by
  obtain ⟨hA, h1, h2, h3, h4, h5, h6⟩ := h
  obtain ⟨hd, en⟩ := hE.wrd
  have s44 : S 100 44 = N := hE.cnt.2.1
  have s19 : S 100 19 = n := hE.cnt.1
  have hph := hE.ph
  obtain ⟨c1, c2, c3, -, c5, -⟩ := crS_at (x := x) s19
  have eR : mCrR S x = mCr2 (mCrS S x) n := by unfold mCrR; rw [s19, Int.toNat_natCast]
  obtain ⟨M, hM⟩ := cr_all (S := S) (T := mCrS S x) (x := x) c2 (fun r => ⟨c1 246 r (by decide) (by decide) (by decide) (Or.inl (by decide)), c1 247 r (by decide) (by decide) (by decide) (Or.inl (by decide)), c1 248 r (by decide) (by decide) (by decide) (Or.inl (by decide)), c1 249 r (by decide) (by decide) (by decide) (Or.inl (by decide))⟩) n
  have fU : ∀ (o : Nat) (y : Int), (o < 246 ∨ 249 < o) → (o ≠ 100 ∨ y ≠ 44) → (mCr2 (mCrS S x) n).1 o y = mCrS S x o y := fun o y a b => (mCr2_n (mCrS S x) n).2.2 o y a b
  rw [eR]
  generalize (mCr2 (mCrS S x) n).1 = U at *
  obtain ⟨m1, m2, m3, m4, m5⟩ := hM
  have bnd : M ≤ N + oS (opA S) (fun j => wN S j + 1) n := by
    have a := lf_all hE h6
    have b := lf_mono (S := S) (n := n) (x := x) (N - x) (fun r r0 r1 => by
      have rN : (r : Int) < N := by omega
      have l := hE.lr.1 r (by omega) rN
      have c : ¬ (S 246 r = 1 ∨ S 246 r = 4) := fun z => by
        have := h4 r (by omega) (by rw [s44]; exact rN) z
        omega
      refine ⟨l.2 (by omega), ?_⟩
      by_cases z3 : S 246 r = 3
      · exact Or.inr (Or.inr ⟨z3, h5 r (by omega) (by rw [s44]; exact rN) z3⟩)
      · omega)
    rw [show x + (N - x) = N by omega] at b
    omega
  have f : ∀ (o : Nat) (y : Int), o ≠ 221 → o ≠ 225 → o ≠ 226 → (o < 246 ∨ 249 < o) → (o ≠ 100 ∨ (y ≠ 44 ∧ y ≠ 45)) → up2 U 100 45 (U 100 44) o y = S o y := fun o y a b c d e => by
    have u : up2 U 100 45 (U 100 44) o y = U o y := if_neg (fun z => by omega)
    rw [u, fU o y d (by omega)]
    exact c1 o y a b c (by omega)
  have fu : ∀ o : Nat, o ≠ 221 → o ≠ 225 → o ≠ 226 → (o < 246 ∨ 249 < o) → o ≠ 100 → up2 U 100 45 (U 100 44) o = S o := fun o a b c d e => funext (fun y => f o y a b c d (Or.inl e))
  have k44 : up2 U 100 45 (U 100 44) 100 44 = (M : Int) := (up2_k _ _ _ _ (by decide)).trans m1
  have k45 : up2 U 100 45 (U 100 44) 100 45 = (M : Int) := (up2_eq _ _ _ _).trans m1
  have k19 : up2 U 100 45 (U 100 44) 100 19 = S 100 19 := f 100 19 (by decide) (by decide) (by decide) (Or.inl (by decide)) (Or.inr (by decide))
  have k21 : ∀ j : Nat, j < n → up2 U 100 45 (U 100 44) 221 j = if S 221 j < 2 then 3 else S 221 j := fun j hj => by
    rw [up2_o _ _ _ _ (by decide), fU 221 j (by decide) (Or.inl (by decide))]
    exact c3 j hj
  have kR : ∀ o : Nat, 246 ≤ o → o ≤ 249 → up2 U 100 45 (U 100 44) o = U o := fun o a b => funext (fun y => up2_o _ _ _ _ (by omega))
  refine ⟨⟨?_, fun r r0 r1 r2 => ?_, fun y y0 y1 => ?_, h3.of k19 (fu 233 (by decide) (by decide) (by decide) (by decide) (by decide)) (fu 236 (by decide) (by decide) (by decide) (by decide) (by decide)), fun r r0 r1 _ => by rw [k45]; rw [k44] at r1; exact r1, fun r r0 r1 _ => by rw [k45] at r0; rw [k44] at r1; omega, fun j hj h21 hx' => ?_⟩, fun M' hM' => by rw [m1] at hM'; omega⟩
  · refine hA.crash hd (fun o ho => fu o (by omega) (by omega) (by omega) (by omega) (by omega)) k19 (f 100 37 (by decide) (by decide) (by decide) (Or.inl (by decide)) (Or.inr (by decide))) (fun j hj => ?_) ?_
    · rw [en] at hj
      unfold opA
      rw [k21 j hj]
      split
      · decide
      · assumption
    · rw [k44, s44, en, Int.toNat_natCast, Int.toNat_natCast]; exact bnd
  · rw [k44] at r1
    rw [kR 246 (by decide) (by decide)] at r2
    rw [kR 248 (by decide) (by decide), f 100 0 (by decide) (by decide) (by decide) (Or.inl (by decide)) (Or.inr (by decide))]
    by_cases z : r < x
    · obtain ⟨a, -, c, -⟩ := m3 r z
      rw [c]
      exact h1 r r0 (by rw [s44]; omega) (by rw [← a]; exact r2)
    · have := (m4 r (by omega) r1).1
      omega
  · rw [up2_o _ _ _ _ (by decide), fU 225 y (by decide) (Or.inl (by decide))]
    rcases c5 y with z | z
    · rw [z]; exact h2 y y0 y1
    · exact Or.inl z
  · rw [k19, s19] at hj
    have hj' : j < n := by omega
    rw [k21 j hj'] at h21
    obtain ⟨r, r0, r1, r2, r3⟩ := hx'
    rw [k44] at r1
    rw [kR 246 (by decide) (by decide)] at r2
    rw [kR 247 (by decide) (by decide)] at r3
    have rx : r < x := by
      by_cases z : r < x
      · exact z
      · have := (m4 r (by omega) r1).1
        omega
    obtain ⟨a, b, -, -⟩ := m3 r rx
    have h0 : hsR S j x 0 := ⟨r.toNat, by omega, by rw [show ((r.toNat : Nat) : Int) = r by omega, ← a]; exact r2, by rw [show ((r.toNat : Nat) : Int) = r by omega, ← b]; exact r3⟩
    rw [k44, kR 246 (by decide) (by decide), kR 247 (by decide) (by decide)]
    by_cases hl : lfR S j x
    · obtain ⟨p, p0, p1, p2, p3⟩ := m5 j hj' hl
      exact ⟨p, by omega, p1, p2, p3⟩
    · by_cases z3 : hsR S j x 3
      · obtain ⟨p, p1, p2, p3⟩ := z3
        obtain ⟨a', b', -, -⟩ := m3 p (by omega)
        exact ⟨p, by omega, by omega, a'.trans p2, b'.trans p3⟩
      · have z1 : hsR S j x 1 := Classical.byContradiction (fun z => hl ⟨h0, z, z3⟩)
        obtain ⟨p, p1, p2, p3⟩ := z1
        have c := (hE.lo.2 j hj').mpr ⟨p, by omega, by omega, p2, p3⟩
        rw [if_neg (by omega), c] at h21
        exact absurd h21 (by decide)
/-- a CHECK comes -/
theorem ZI.checked (h : ZI k (-1) S) (s44 : S 100 44 = N) (hS : ∀ o y, (o < 246 ∨ 249 < o) → (o ≠ 100 ∨ (y ≠ 44 ∧ y ≠ 45)) → S' o y = S o y) (h44 : S' 100 44 = ((N + 1 : Nat) : Int)) (h45 : S' 100 45 = ((N + 1 : Nat) : Int)) (hR : ∀ r : Int, r ≠ N → S' 246 r = S 246 r ∧ S' 247 r = S 247 r ∧ S' 248 r = S 248 r ∧ S' 249 r = S 249 r) (hn : S' 246 N = 4) : ZI (k + 1) (-1) S' := by
  obtain ⟨⟨Kv, E, d, b, cB, chk, hK, hE, hW, hk, hb, hN⟩, h1, h2, h3, h4, h5, h6⟩ := h
  have fu : ∀ o, (o < 246 ∨ 249 < o) → o ≠ 100 → S' o = S o := fun o a c => funext (fun y => hS o y a (Or.inl c))
  have f1 := fu 201 (by decide) (by decide)
  have f4 := fu 214 (by decide) (by decide)
  have f5 := fu 215 (by decide) (by decide)
  have f21 := fu 221 (by decide) (by decide)
  have f23 := fu 223 (by decide) (by decide)
  have f27 := fu 227 (by decide) (by decide)
  have f28 := fu 228 (by decide) (by decide)
  have e19 := hS 100 19 (by decide) (Or.inr (by decide))
  have e37 := hS 100 37 (by decide) (Or.inr (by decide))
  have en : nS S' = nS S := by unfold nS; rw [e19]
  have ne0 : ∀ r : Int, S' 246 r = 0 → r ≠ (N : Int) := fun r hr e => by rw [e, hn] at hr; exact absurd hr (by decide)
  have ewk : ∀ j, WrK S' j = WrK S j := fun j => funext (fun z => propext (by
    constructor
    · rintro ⟨r, r0, r1, r2, r3, r4, r5⟩
      have ne := ne0 r r2
      obtain ⟨a, b', c, d'⟩ := hR r ne
      rw [h44] at r1
      exact ⟨r, r0, by rw [s44]; omega, a.symm.trans r2, b'.symm.trans r3, c.symm.trans r4, d'.symm.trans r5⟩
    · rintro ⟨r, r0, r1, r2, r3, r4, r5⟩
      rw [s44] at r1
      obtain ⟨a, b', c, d'⟩ := hR r (by omega)
      exact ⟨r, r0, by rw [h44]; omega, a.trans r2, b'.trans r3, c.trans r4, d'.trans r5⟩))
  have ewn : ∀ j, wN S' j = wN S j := fun j => by
    unfold wN
    rw [h44, s44, Int.toNat_natCast, Int.toNat_natCast, unM_no (fun z => by rw [hn] at z; exact absurd z.1 (by decide))]
    exact un_same N (fun r hr => ⟨(hR r (by omega)).1, (hR r (by omega)).2.1⟩)
  have ecap : capF S' = capF S := funext (fun z => by unfold capF; rw [f1])
  have eslk : ∀ s (Wr : Int × Int → Prop), slk S' s Wr = slk S s Wr := fun s Wr => funext (fun z => by
    unfold slk
    rw [f1, cw_of f4 f5])
  have eop : opA S' = opA S := funext (fun j => by unfold opA; rw [f21])
  have ewt : wtA S' (-1) = wtA S (-1) := funext (fun j => by unfold wtA; rw [f21])
  have ersv : rsv S' = rsv S := funext (fun j => by unfold rsv; rw [f27, f28, f1])
  refine ⟨⟨Kv, E, d, b, cB, chk + 1, ⟨⟨hK.1.1, fun z hz => by rw [f1]; exact hK.1.2 z hz⟩, fun t ρ t0 t1 hρ => hK.2.1 t ρ t0 t1 ((mIn_of2 f4 f5 t ρ).mp hρ), fun j hj oj => ?_⟩, by rw [ecap]; exact hE, fun j hj oj => ?_, ?_, ?_, ?_⟩, fun r r0 r1 r2 => ?_, ?_, h3.of e19 (fu 233 (by decide) (by decide)) (fu 236 (by decide) (by decide)), fun r r0 r1 _ => by rw [h45]; rw [h44] at r1; exact r1, fun r r0 r1 _ => by rw [h45] at r0; rw [h44] at r1; omega, fun j hj h21 hx => ?_⟩
  · rw [en] at hj
    rw [eop] at oj
    obtain ⟨a, c⟩ := hK.2.2 j hj oj
    refine ⟨fun t ρ t0 t1 hρ => a t ρ t0 t1 ?_, fun z hz => c z (by rw [← ewk]; exact hz)⟩
    rw [f23] at hρ
    exact (mIn_of2 f4 f5 t ρ).mp hρ
  · rw [en] at hj
    rw [eop] at oj
    rw [ewn, ewk, f23, eslk]
    exact hW j hj oj
  · rw [ecap, en, eop, ewt, ersv, e37]; omega
  · rw [en, eop]; exact hb
  · rw [en, eop, h44, show wN S' = wN S from funext ewn]
    rw [s44] at hN
    omega
  · have ne := ne0 r r2
    obtain ⟨a, -, c, -⟩ := hR r ne
    rw [h44] at r1
    rw [hS 100 0 (by decide) (Or.inr (by decide)), c]
    exact h1 r r0 (by rw [s44]; omega) (by rw [← a]; exact r2)
  · unfold WaB
    rw [fu 225 (by decide) (by decide)]
    exact h2
  · rw [e19] at hj
    rw [f21] at h21
    obtain ⟨r, r0, r1, r2, r3⟩ := hx
    have ne := ne0 r r2
    obtain ⟨a, b', -, -⟩ := hR r ne
    rw [h44] at r1
    obtain ⟨p, p0, p1, p2, p3⟩ := h6 j hj h21 ⟨r, r0, by rw [s44]; omega, by rw [← a]; exact r2, by rw [← b']; exact r3⟩
    rw [s44] at p1
    obtain ⟨a', b'', -, -⟩ := hR p (by omega)
    exact ⟨p, p0, by rw [h44]; omega, a'.trans p2, b''.trans p3⟩
end
