/-! a write that is carried out -/
section
variable {S S' W : IT} {k n : Nat} {s : Int}
theorem ZA.adds {j0 dd db dc : Nat} {Kv K' : List (Int × Int)} {E : List Gq} {d b : Nat → Nat} {cB chk : Nat} (hK : ZK S Kv) (hE : ∀ g, g ∈ E → GqOK (min 48 Kv.length) (kS (capF S) Kv) g) (hW : ZW S Kv d b)
    (hc : kS (capF S) Kv + 2 * Kv.length + cB + chk + gqS gqC E + oS (opA S) (fun j => 1 + d j) (nS S) + (S 100 37).toNat + oS (wtA S j0) (rsv S) (nS S) ≤ k) (hb : gqS gqB E + oS (opA S) b (nS S) ≤ Kv.length + 2 * cB) (hN : (S 100 44).toNat ≤ gqS gqW E + oS (opA S) (wN S) (nS S) + chk)
    (hi : j0 < nS S) (oi : opA S j0) (e1 : S' 201 = S 201) (e19 : S' 100 19 = S 100 19) (e37 : S' 100 37 ≤ S 100 37) (e44 : (S' 100 44).toNat = (S 100 44).toNat + n) (hwn : wN S' j0 = wN S j0 + n) (ho : ∀ j, j < nS S → (opA S' j ↔ opA S j)) (hw : ∀ j, j < nS S → wtA S' (-1) j → (wtA S j0 j ∧ j ≠ j0) ∧ rsv S' j = rsv S j) (hs : ∀ j, j < nS S → opA S j → j ≠ j0 → SmO S S' j)
    (hK' : ZK S' K') (sup : ∀ f, kS f Kv ≤ kS f K') (len : Kv.length ≤ K'.length) (c1 : kS (capF S) K' + 2 * K'.length + dc + dd ≤ kS (capF S) Kv + 2 * Kv.length + rsv S j0) (c2 : db + Kv.length ≤ K'.length + 2 * dc) (c3 : n ≤ min 48 K'.length * dd + db) (c4 : kS (slk S (S 223 j0) (WrK S j0)) Kv + n ≤ dd + db + kS (slk S' (S' 223 j0) (WrK S' j0)) K') : ZA k (-1) S' := by
  have en : nS S' = nS S := by unfold nS; rw [e19]
  have ecap : capF S' = capF S := funext (fun x => by unfold capF; rw [e1])
  have eop : ∀ f : Nat → Nat, oS (opA S') f (nS S) = oS (opA S) f (nS S) := fun f => oS_eq (nS S) (fun j hj => ⟨ho j hj, fun _ => rfl⟩)
  have K6 : ∀ x, x ∈ Kv → 0 ≤ x.1 ∧ x.1 < 6 := fun x hx => (hK.1.2 x hx).2
  have rho : min 48 Kv.length ≤ min 48 K'.length := by omega
  obtain ⟨d', hd'⟩ : ∃ d' : Nat → Nat, ∀ j, d' j = if j = j0 then d j0 + dd else d j := ⟨_, fun _ => rfl⟩
  obtain ⟨b', hb'⟩ : ∃ b' : Nat → Nat, ∀ j, b' j = if j = j0 then b j0 + db else b j := ⟨_, fun _ => rfl⟩
  have dj : d' j0 = d j0 + dd := by rw [hd', if_pos rfl]
  have bj : b' j0 = b j0 + db := by rw [hb', if_pos rfl]
  have dn : ∀ j, j ≠ j0 → d' j = d j := fun j h => by rw [hd', if_neg h]
  have bn : ∀ j, j ≠ j0 → b' j = b j := fun j h => by rw [hb', if_neg h]
  have s1 := oS_at (f := fun j => 1 + d' j) (g := fun j => 1 + d j) oi hi (fun j _ _ hne => by show 1 + d' j = 1 + d j; rw [dn j hne])
  have s2 := oS_at (f := b') (g := b) oi hi (fun j _ _ hne => bn j hne)
  have s3 := oS_at (f := wN S') (g := wN S) oi hi (fun j hj oj hne => by have := hs j hj oj hne; exact Nat.le_antisymm this.2.2.1 this.2.2.2.1)
  have s4 : oS (wtA S' (-1)) (rsv S') (nS S) + rsv S j0 ≤ oS (wtA S j0) (rsv S) (nS S) := by
    have a1 : oS (wtA S' (-1)) (rsv S') (nS S) = oS (wtA S' (-1)) (rsv S) (nS S) := oS_zz (fun j hj wj => (hw j hj wj).2)
    have wj : wtA S j0 j0 := Or.inr rfl
    have a2 := oS_rm (f := rsv S) wj (nS S) hi
    have a3 := oS_sub (p := fun j => wtA S j0 j ∧ j ≠ j0) (p' := wtA S' (-1)) (f := rsv S) (nS S) (fun j hj wj => (hw j hj wj).1)
    omega
  refine ⟨K', E, d', b', cB + dc, chk, hK', fun g hg => by rw [ecap]; exact (hE g hg).up rho (sup _), fun j hj oj => ?_, ?_, ?_, ?_⟩
  · rw [en] at hj
    have oj' := (ho j hj).mp oj
    by_cases e : j = j0
    · subst e
      have w := hW j hj oj'
      have m1 := Nat.mul_le_mul_right (d j) rho
      rw [hwn, dj, bj, Nat.mul_add]
      exact ⟨by omega, by omega⟩
    · have w := hW j hj oj'
      have m1 := Nat.mul_le_mul_right (d j) rho
      have sm := hs j hj oj' e
      have sl := sm.slk e1 K6
      have s5 := sup (slk S' (S' 223 j) (WrK S' j))
      have := sm.2.2.1
      rw [dn j e, bn j e]
      exact ⟨by omega, by omega⟩
  · rw [ecap, en, eop]
    rw [dj] at s1
    omega
  · rw [en, eop]
    omega
  · rw [en, eop, e44]
    omega
/-- by the kind of the write -/
theorem ZA.write {j0 : Nat} (h : ZA k j0 S) (hi : j0 < nS S) (oi : opA S j0) (hF : WsF S S' W j0 (S 223 j0)) (hm : RWm S (S 223 j0)) (hn : W 100 41 = n) (ht : 0 ≤ S 228 j0 ∧ S 228 j0 < 6) (hw4 : 1 ≤ S 201 (S 228 j0) ∧ S 201 (S 228 j0) ≤ 4) (e1 : S' 201 = S 201) (e19 : S' 100 19 = S 100 19) (e37 : S' 100 37 ≤ S 100 37) (e44 : (S' 100 44).toNat = (S 100 44).toNat + n) (e23 : S' 223 j0 = S 223 j0) (hwr : ∀ x, WrK S' j0 x ↔ WrK S j0 x ∨ x ∈ wtL W n) (hwn : wN S' j0 = wN S j0 + n) (ho : ∀ j, j < nS S → (opA S' j ↔ opA S j)) (hw : ∀ j, j < nS S → wtA S' (-1) j → (wtA S j0 j ∧ j ≠ j0) ∧ rsv S' j = rsv S j) (h4 : ∀ t ρ, 0 ≤ t → t < 6 → mIn S' 4 t ρ → mIn S 4 t ρ) (hs : ∀ j, j < nS S → opA S j → j ≠ j0 → SmO S S' j) : ZA k (-1) S' := by
  obtain ⟨Kv, E, d, b, cB, chk, hK, hE, hW, hc, hb, hN⟩ := h
  obtain ⟨a1, a2⟩ := hK.2.2 j0 hi oi
  obtain ⟨K', m, hC⟩ := ws_step (Wr := WrK S j0) (K := Kv) hF hm e1 ht (fun x hx => ⟨(hK.1.2 x hx).1.1, (hK.1.2 x hx).2⟩) hw4.1 a1 a2 hK.1.1
  obtain ⟨e41, nd, sub, kin, -, rows, n48, ins, upd, del⟩ := hC
  have em : m = n := by omega
  subst em
  have eWr : WrK S' j0 = fun x => WrK S j0 x ∨ x ∈ wtL W m := funext (fun x => propext (hwr x))
  have en : nS S' = nS S := by unfold nS; rw [e19]
  have zk : ∀ (hwd : ∀ x, x ∈ K' → (1 ≤ S 201 x.1 ∧ S 201 x.1 ≤ 4) ∧ 0 ≤ x.1 ∧ x.1 < 6), ZK S' K' := fun hwd => by
    refine ⟨⟨nd, fun x hx => by rw [e1]; exact hwd x hx⟩, fun t ρ t0 t1 hρ => sub _ (hK.2.1 t ρ t0 t1 (h4 t ρ t0 t1 hρ)), fun j hj oj => ?_⟩
    rw [en] at hj
    have oj' := (ho j hj).mp oj
    by_cases e : j = j0
    · subst e
      refine ⟨fun t ρ t0 t1 hρ => rows t ρ t0 t1 (by rw [← e23]; exact hρ), fun x hx => ?_⟩
      rcases (hwr x).mp hx with z | z
      · exact sub _ (a2 x z)
      · exact (kin x z).1
    · obtain ⟨b1, b2⟩ := hK.2.2 j hj oj'
      have sm := hs j hj oj' e
      exact ⟨fun t ρ t0 t1 hρ => sub _ (b1 t ρ t0 t1 (sm.1 t ρ t0 t1 hρ)), fun x hx => sub _ (b2 x ((sm.2.1 x).mp hx))⟩
  by_cases k0 : S 227 j0 = 0
  · have rs : rsv S j0 = (S 201 (S 228 j0)).toNat + 1 := if_pos k0
    obtain ⟨n1, z⟩ := ins k0
    rcases z with ⟨y, eK, sl⟩ | ⟨eK, sl⟩
    · rw [eK] at sl
      refine ZA.adds (dd := 0) (db := 1) (dc := 0) (K' := K') hK hE hW hc hb hN hi oi e1 e19 e37 e44 hwn ho hw hs (zk (fun x hx => ?_)) (fun f => ?_) ?_ ?_ ?_ ?_ ?_
      · rw [eK] at hx
        rcases List.mem_cons.mp hx with z | z
        · rw [z]; exact ⟨hw4, ht⟩
        · exact hK.1.2 x z
      · rw [eK]; exact Nat.le_add_left _ _
      · rw [eK, List.length_cons]; omega
      · have ec : kS (capF S) K' = (S 201 (S 228 j0) - 1).toNat + kS (capF S) Kv := by rw [eK]; rfl
        rw [ec, eK, List.length_cons, rs]
        omega
      · rw [eK, List.length_cons]; omega
      · rw [Nat.mul_zero]; omega
      · rw [eWr, e23, eK]
        omega
    · subst eK
      refine ZA.adds (dd := 0) (db := (S 201 (S 228 j0)).toNat) (dc := (S 201 (S 228 j0)).toNat + 1) (K' := K') hK hE hW hc hb hN hi oi e1 e19 e37 e44 hwn ho hw hs (zk hK.1.2) (fun f => Nat.le_refl _) (Nat.le_refl _) (by omega) (by omega) (by rw [Nat.mul_zero]; omega) ?_
      rw [eWr, e23]
      omega
  · have rs : rsv S j0 = 1 := if_neg k0
    by_cases k1 : S 227 j0 = 1
    · obtain ⟨n1, eK, sl⟩ := upd k1
      subst eK
      refine ZA.adds (dd := 0) (db := 2) (dc := 1) (K' := K') hK hE hW hc hb hN hi oi e1 e19 e37 e44 hwn ho hw hs (zk hK.1.2) (fun f => Nat.le_refl _) (Nat.le_refl _) (by omega) (by omega) (by rw [Nat.mul_zero]; omega) ?_
      rw [eWr, e23]
      omega
    · obtain ⟨eK, nK, sl⟩ := del k0 k1
      subst eK
      refine ZA.adds (dd := 1) (db := 0) (dc := 0) (K' := K') hK hE hW hc hb hN hi oi e1 e19 e37 e44 hwn ho hw hs (zk hK.1.2) (fun f => Nat.le_refl _) (Nat.le_refl _) (by omega) (by omega) (by rw [Nat.mul_one]; omega) ?_
      rw [eWr, e23]
      omega
end
