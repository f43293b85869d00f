/-! calls that change nothing, or throw -/
section
variable {K : KT} {P : PT} {J I S T : IT} {c cs ns : Nat} {L : Nat} {xs : Int → Int} {W M2 F : MD} {as bs fas : List AV}
theorem LR.room (h : LR c K P I S T cs ns) (c5 : c ≤ 512) : cs ≤ 10000 ∧ ns ≤ 6200000 := by
  obtain ⟨n, N, g, lq, lv, mv, q, nq, lqq, tn, nv, l3, l4, w, M, ⟨⟨b1, b2⟩, z, d, f, g1⟩, qz, dr, qy, vw, ev, pn, r1, r2⟩ := h
  have pot := b1.pot (fun j hj => by
    have := d j hj
    have m := (mM_rg (S := S) (n := n)).2.2
    have := b1.e.2.1
    omega)
  have a1 := b1.e.1.2.2.1
  have a2 := qy.1.1.1.2.2.1
  have p1 := pl_b lq a1
  have p2 := pl_b lqq a2
  have n60 := b1.e.2.1
  have n20 := qy.1.1.2.1
  have n6 := vw.1.1.2.1
  omega
theorem ref_1 {K1 : KT} {P1 : PT} {J1 S1 : IT} {cd z : Int} {fn : IT → IT × Int} {f l : Nat} (sp : Sp M2 false (rmv f l) (ex K1 P1 J1 (callR cd S1 fn).1 (.inl (some (vI (callR cd S1 fn).2)))) K1 P1 J1 S1 bs) (h : cd = z) (hz : 0 < z) (hf : f ≤ 12) (hl : l ≤ 400) : Sp M2 false (rmv 12 400) (ex K1 P1 J1 (up2 S1 100 93 z) (.inl (some (vI 0)))) K1 P1 J1 S1 bs := by
  rw [callR_1 (by rw [h]; exact hz), h] at sp
  exact sp.room hf hl (Nat.le_refl _) (Nat.le_refl _)
theorem ref_0 {K1 : KT} {P1 : PT} {J1 S1 : IT} {cd : Int} {fn : IT → IT × Int} {f l : Nat} (sp : Sp M2 false (rmv f l) (ex K1 P1 J1 (callR cd S1 fn).1 (.inl (some (vI (callR cd S1 fn).2)))) K1 P1 J1 S1 bs) (h : cd = 0) (hf : f ≤ 12) (hl : l ≤ 400) : Sp M2 false (rmv 12 400) (ex K1 P1 J1 (fn (up2 S1 100 93 0)).1 (.inl (some (vI (fn (up2 S1 100 93 0)).2)))) K1 P1 J1 S1 bs := by
  rw [callR_0 (by rw [h]; decide), h] at sp
  exact sp.room hf hl (Nat.le_refl _) (Nat.le_refl _)
theorem owe_tell {z v b : Int} {k n : Nat} (h : LR c K P I S T cs ns) (c5 : c < 512) (sp : Sp M2 false (rmv 12 400) (ex (rsK RefN K) (rsP RefN P) T (up2 S 100 93 z) (.inl (some (vI b)))) (rsK RefN K) (rsP RefN P) T S bs) (hz : z = 0 → v = b) (hk : k ≤ 1) (hn : n ≤ 6) : OweR c M2 bs K P I S T cs ns z v K P I k n := by
  refine ⟨fun _ _ => ⟨rfl, rfl, rfl⟩, _, sp, fun r K1 P1 J1 I1 hq => ?_⟩
  obtain ⟨e1, e2, e3, e4, e5⟩ := hq
  subst e4
  subst e5
  exact ⟨e2, e3, b, e1, up2_eq _ _ _ _, hz, h.tell c5 hk hn⟩
/-- the class's call leaves its world -/
theorem case_ex {R0 : Option AV ⊕ String} {kk nn : Nat} {es : List (String × Int)} (h : LI c L xs K P J I cs ns) (c5 : c < 512) (hb : ∀ v ∈ bs, ∀ q, v = vR (some q) → RefN q) (h0 : ∀ q, q ∈ es → q.2 ≠ 0) (hu : ∀ q, q ∈ es → ∀ q', q' ∈ es → q.1 = q'.1 → q = q')
    (lw : ∀ {X Y : Nat} {Q0 : PE}, (∀ k n (v : Int) (K' : KT) (P' : PT) (J' I' : IT), Q0 (.inl (some (vI v))) K' P' J' I' k n → R0 = .inl (some (vI v))) → SpE F true ({ frames := 14, cells := X, slots := Y, locals := 600 } : Room) Q0 K P J I fas → LwX (es.map (fun q => q.1)) X Y Q0 → LwR X Y Q0 → SpE W true ({ frames := 15, cells := X, slots := Y, locals := 660 } : Room) (LwE es Q0) K P J I as)
    (sp : Sp F true ({ frames := 12, cells := kk, slots := nn, locals := 400 } : Room) (ex K P J I R0) K P J I fas) (hk : kk ≤ 1) (hn : nn ≤ 6)
    (hres : (∃ q b, q ∈ es ∧ R0 = .inr q.1 ∧ Sp M2 false (rmv 12 400) (ex (rsK RefN K) (rsP RefN P) (rsI RefN J) (up2 (mS I) 100 93 q.2) (.inl (some (vI b)))) (rsK RefN K) (rsP RefN P) (rsI RefN J) (mS I) bs) ∨ ∃ v, R0 = .inl (some (vI v)) ∧ Sp M2 false (rmv 12 400) (ex (rsK RefN K) (rsP RefN P) (rsI RefN J) (up2 (mS I) 100 93 0) (.inl (some (vI v)))) (rsK RefN K) (rsP RefN P) (rsI RefN J) (mS I) bs) : CaseC c L xs W as M2 bs K P J I cs ns := by
  obtain ⟨hL, hR⟩ := h
  have rm := hR.room (by omega)
  have h50 := hL.2.2.1
  have spE := sp.toE.room (R' := ({ frames := 14, cells := 603072 - cs, slots := 7207018 - ns, locals := 600 } : Room)) (by show 12 ≤ 14; omega) (by show 400 ≤ 600; omega) (by show kk ≤ 603072 - cs; omega) (by show nn ≤ 7207018 - ns; omega)
  refine case_mk (Q0 := fun r K' P' J' I' k n => ex K P J I R0 r K' P' J' I' ∧ k = kk ∧ n = nn) hL (by omega) hb (lw (fun k n v K' P' J' I' hq => hq.1.1.symm) spE (fun k n E K' P' J' I' hq => ?_) (fun k n r K' P' J' I' hq => ?_)) h0 (fun q hq K' P' J' I' k n hQ => ?_) (fun v K' P' J' I' k n hQ => ?_)
  · obtain ⟨⟨e1, -⟩, ek, en⟩ := hq
    rcases hres with ⟨q, b, hq, e, -⟩ | ⟨v, e, -⟩
    · rw [e] at e1
      injection e1 with e1
      exact ⟨List.mem_map.mpr ⟨q, hq, e1.symm⟩, by omega, by omega⟩
    · rw [e] at e1; cases e1
  · obtain ⟨⟨e1, e2, -⟩, ek, en⟩ := hq
    rcases hres with ⟨q, b, hq, e, -⟩ | ⟨v, e, -⟩
    · rw [e] at e1; cases e1
    · rw [e] at e1
      injection e1 with e1
      exact ⟨⟨v, e1⟩, by rw [e2]; exact h50, by omega, by omega⟩
  · obtain ⟨⟨e1, e2, e3, e4, e5⟩, ek, en⟩ := hQ
    subst e2; subst e3; subst e4; subst e5
    refine ⟨rfl, ?_⟩
    rcases hres with ⟨q', b, hq', e, sp2⟩ | ⟨v, e, -⟩
    · rw [e] at e1
      injection e1 with e1
      have := hu q hq q' hq' e1
      subst this
      exact owe_tell hR c5 sp2 (fun z => absurd z (h0 q hq)) (by omega) (by omega)
    · rw [e] at e1; cases e1
  · obtain ⟨⟨e1, e2, e3, e4, e5⟩, ek, en⟩ := hQ
    subst e2; subst e3; subst e4; subst e5
    refine ⟨rfl, ?_⟩
    rcases hres with ⟨q', b, hq', e, -⟩ | ⟨v', e, sp2⟩
    · rw [e] at e1; cases e1
    · rw [e] at e1
      injection e1 with e1
      injection e1 with e1
      injection e1 with e1
      subst e1
      exact owe_tell hR c5 sp2 (fun _ => rfl) (by omega) (by omega)
/-- arguments of a call of the reference -/
theorem hb_1 : ∀ v ∈ [vR (some 100)], ∀ q, v = vR (some q) → RefN q := fun v hv q e => by
  rw [List.mem_singleton.mp hv] at e
  injection e with e
  injection e with e
  injection e with e
  exact Or.inr (Or.inl e.symm)
theorem hb_i {z : Int} {l : List AV} (h : ∀ v ∈ l, ∀ q, v = vR (some q) → RefN q) : ∀ v ∈ l ++ [vI z], ∀ q, v = vR (some q) → RefN q := fun v hv q e => by
  rcases List.mem_append.mp hv with y | y
  · exact h v y q e
  · rw [List.mem_singleton.mp y] at e; cases e
theorem es_1 {a : String} {x : Int} : ∀ q, q ∈ [(a, x)] → ∀ q', q' ∈ [(a, x)] → q.1 = q'.1 → q = q' := fun q hq q' hq' _ => by
  rw [List.mem_singleton.mp hq, List.mem_singleton.mp hq']
theorem es_2 {a b : String} {x y : Int} (h : a ≠ b) : ∀ q, q ∈ [(a, x), (b, y)] → ∀ q', q' ∈ [(a, x), (b, y)] → q.1 = q'.1 → q = q' := fun q hq q' hq' e => by
  simp only [List.mem_cons, List.not_mem_nil, or_false] at hq hq'
  rcases hq with z | z <;> rcases hq' with u | u
  · rw [z, u]
  · rw [z, u] at e; exact absurd e h
  · rw [z, u] at e; exact absurd e.symm h
  · rw [z, u]
theorem es_3 {a b d : String} {x y z : Int} (h1 : a ≠ b) (h2 : a ≠ d) (h3 : b ≠ d) : ∀ q, q ∈ [(a, x), (b, y), (d, z)] → ∀ q', q' ∈ [(a, x), (b, y), (d, z)] → q.1 = q'.1 → q = q' := fun q hq q' hq' e => by
  simp only [List.mem_cons, List.not_mem_nil, or_false] at hq hq'
  rcases hq with s | s | s <;> rcases hq' with u | u | u <;> rw [s, u] at e <;> first | (rw [s, u]; done) | exact absurd e h1 | exact absurd e h2 | exact absurd e h3 | exact absurd e.symm h1 | exact absurd e.symm h2 | exact absurd e.symm h3
end
