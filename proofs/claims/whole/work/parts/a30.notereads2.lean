section
variable {K : KT} {P : PT} {J I : IT}
def rdW (I : IT) (q : Nat) (s t : Int) : Prop := I (q + 3) s = 0 ∧ t = I (q + 4) (s * 4 + 0) ∧ ¬ quK I q s
def rdY (I : IT) (q : Nat) (s t y : Int) : Prop := I (q + 3) s = 0 ∧ t = I (q + 4) (s * 4 + 0) ∧ quK I q s ∧ y = I (q + 4) (quStop I q (s + 1) (I q 0 - (s + 1)).toNat * 4 + 2)
theorem quK_of {S : IT} {q : Nat} (h0 : S q = I q) (h3 : S (q + 3) = I (q + 3)) (h4 : S (q + 4) = I (q + 4)) : (∀ x n, quStop S q x n = quStop I q x n) ∧ ∀ s, quK S q s ↔ quK I q s := by
  have e : ∀ x n, quStop S q x n = quStop I q x n := fun x n => by
    unfold quStop quSk quFlt quAsk
    rw [h3, h4]
  refine ⟨e, fun s => ?_⟩
  unfold quK
  rw [e, h0]
  unfold quAsk
  rw [h3, h4]
theorem rd_of {S : IT} {q : Nat} (h0 : S q = I q) (h3 : S (q + 3) = I (q + 3)) (h4 : S (q + 4) = I (q + 4)) : (∀ s t, rdW S q s t ↔ rdW I q s t) ∧ ∀ s t y, rdY S q s t y ↔ rdY I q s t y := by
  obtain ⟨e1, e2⟩ := quK_of h0 h3 h4
  refine ⟨fun s t => ?_, fun s t y => ?_⟩
  · unfold rdW
    rw [h3, h4, e2]
  · unfold rdY
    rw [h3, h4, e2, e1, h0]
theorem QuW.fr {K' : KT} {P' : PT} {q : Nat} (h : QuW K P q) (hp : P' q = P q) (hk : ∀ j, j < 32 → K' (q + j) = K (q + j)) : QuW K' P' q := by
  have h0 : K' q = K q := hk 0 (by decide)
  unfold QuW at h ⊢
  rw [hp, h0, hk 3 (by decide), hk 4 (by decide), hk 5 (by decide), hk 6 (by decide), hk 7 (by decide), hk 9 (by decide), hk 13 (by decide)]
  exact h
end
theorem note_loop {I0 J : IT} {q i m n : Nat} (hn : n ≤ 12) (hqi : ∀ j, j < 32 → ¬ nTx i (q + j)) (hp : ∀ k : Nat, k < n → I0 (q + 3) k = 0 → 0 ≤ I0 (q + 4) ((k : Int) * 4 + 0) ∧ I0 (q + 4) ((k : Int) * 4 + 0) < 6) (hn0 : I0 q 0 = n) :
    ∀ (w : Nat) (s : Nat) (l : Nat) (K : KT) (P : PT) (I : IT), s + w = n → QuW K P q → (I q = I0 q ∧ I (q + 3) = I0 (q + 3) ∧ I (q + 4) = I0 (q + 4)) → TxV K P i l m → TxN I i l m → I (tX i) 14 + w < 100000 →
    ∃ (l' c nn : Nat) (K' : KT) (P' : PT) (I' : IT), (TxV K' P' i l' m ∧ TxN I' i l' m) ∧ Fr (nTx i) K P I K' P' I' ∧ (c + 2 * l = 2 * l' ∧ nn + ps l = ps l') ∧ RdD I I' i l l' m (fun t => ∃ k : Nat, s ≤ k ∧ k < n ∧ rdW I0 q k t) (fun t y => ∃ k : Nat, s ≤ k ∧ k < n ∧ rdY I0 q k t y) w ∧
      ∀ C N cs ns : Nat, cs + c ≤ C → ns + nn ≤ N → VW m_Query_noteReads false ({ frames := 5, cells := C, slots := N, locals := 200 } : Room) (ex K' P' J I' (.inl none)) K P J I cs ns 2 [(0, vR (some q)), (1, vR (some (tX i))), (2, vI (s : Int))] [] := by
  intro w
  induction w with
  | zero =>
    intro s l K P I hs hQ hI hV hN hb
    have es : s = n := by omega
    subst es
    refine ⟨l, 0, 0, K, P, I, ⟨hV, hN⟩, Fr.rf, ⟨by omega, by omega⟩, RdD.rf.iff (fun t _ _ => ⟨False.elim, fun ⟨k, k1, k2, _⟩ => by omega⟩) (fun t y => ⟨False.elim, fun ⟨k, k1, k2, _⟩ => by omega⟩) (by omega), fun C N cs ns hC hN' => ?_⟩
    have h0 : I q 0 = s := by rw [hI.1]; exact hn0
    refine VW.iload_n (pc' := 3) d_Query_noteReads_2 rfl rfl ?_
    refine VW.aload_n (pc' := 4) d_Query_noteReads_3 rfl rfl ?_
    refine VW.gI (ci := 4) (T := T4) (N := 13) (k := 0) (k' := 0) (pc' := 7) d_Query_noteReads_4 rfl lk_Query_33 in4 rfl rfl rfl rfl (by first | exact hQ.k | exact hQ.k2) (by first | exact hQ.p2 | exact h0 | rfl) ?_
    refine VW.icmp_ge (tgt := 31) (pc' := 10) d_Query_noteReads_7 rfl rfl (fun c7 => ?_) (fun c7 => ?_)
    case refine_2 => exact absurd c7 (by omega)
    exact VW.vret d_Query_noteReads_31 rfl (by show _ ≤ C; omega) (by show _ ≤ N; omega) ex_rf
  | succ w ih =>
    intro s l K P I hs hQ hI hV hN hb
    have h0 : I q 0 = n := by rw [hI.1]; exact hn0
    obtain ⟨eW, eY⟩ := rd_of hI.1 hI.2.1 hI.2.2
    by_cases hk : I (q + 3) (s : Int) = 0
    · have hp' := hp s (by omega) (by rw [← hI.2.1]; exact hk)
      rw [← hI.2.2] at hp'
      obtain ⟨l1, c1, n1, K1, P1, I1, ⟨v1, v2⟩, f1, r1, d1, sp⟩ := noteOf_ex (J := J) (s := (s : Int)) hQ (by omega) (by omega) hV hN rfl hp' (by omega)
      have q0 := f1 q (hqi 0 (by decide))
      have q3 := f1 (q + 3) (hqi 3 (by decide))
      have q4 := f1 (q + 4) (hqi 4 (by decide))
      have hQ1 : QuW K1 P1 q := hQ.fr q0.2.1 (fun j hj => (f1 _ (hqi j hj)).1)
      obtain ⟨l2, c2, n2, K2, P2, I2, g1, g2, g3, g4, g5⟩ := ih (s + 1) l1 K1 P1 I1 (by omega) hQ1 ⟨q0.2.2.trans hI.1, q3.2.2.trans hI.2.1, q4.2.2.trans hI.2.2⟩ v1 v2 (by have := d1.2.1; omega)
      refine ⟨l2, c1 + c2, n1 + n2, K2, P2, I2, g1, f1.tr g2, ⟨by omega, by omega⟩, (d1.tr g4).iff (fun t _ _ => ?_) (fun t y => ?_) (by omega), fun C N cs ns hC hN' => ?_⟩
      · constructor
        · rintro (z | ⟨k, k1, k2, k3⟩)
          · exact ⟨s, Nat.le_refl _, by omega, (eW _ _).mp ⟨hk, z⟩⟩
          · exact ⟨k, by omega, k2, k3⟩
        · rintro ⟨k, k1, k2, k3⟩
          by_cases e : k = s
          · subst e; exact Or.inl ((eW _ _).mpr k3).2
          · exact Or.inr ⟨k, by omega, k2, k3⟩
      · constructor
        · rintro (z | ⟨k, k1, k2, k3⟩)
          · exact ⟨s, Nat.le_refl _, by omega, (eY _ _ _).mp ⟨hk, z⟩⟩
          · exact ⟨k, by omega, k2, k3⟩
        · rintro ⟨k, k1, k2, k3⟩
          by_cases e : k = s
          · subst e; exact Or.inl ((eY _ _ _).mpr k3).2
          · exact Or.inr ⟨k, by omega, k2, k3⟩
      · have n9 := g5 C N (cs + c1) (ns + n1) (by omega) (by omega)
        rw [show ((s + 1 : Nat) : Int) = (s : Int) + 1 by omega] at n9
        clear ih g5
        refine VW.iload_n (pc' := 3) d_Query_noteReads_2 rfl rfl ?_
        refine VW.aload_n (pc' := 4) d_Query_noteReads_3 rfl rfl ?_
        refine VW.gI (ci := 4) (T := T4) (N := 13) (k := 0) (k' := 0) (pc' := 7) d_Query_noteReads_4 rfl lk_Query_33 in4 rfl rfl rfl rfl (by first | exact hQ.k | exact hQ.k2) (by first | exact hQ.p2 | exact h0 | rfl) ?_
        refine VW.icmp_ge (tgt := 31) (pc' := 10) d_Query_noteReads_7 rfl rfl (fun c7 => ?_) (fun c7 => ?_)
        case refine_1 => exact absurd c7 (by omega)
        refine VW.aload_n (pc' := 11) d_Query_noteReads_10 rfl rfl ?_
        refine VW.gP (ci := 4) (T := T4) (N := 13) (k := 2) (k' := 2) (pc' := 14) d_Query_noteReads_11 rfl lk_Query_9 in4 rfl rfl rfl rfl (by first | exact hQ.k | exact hQ.k2) (by first | exact hQ.p2 | exact h0 | rfl) ?_
        refine VW.iload_n (pc' := 15) d_Query_noteReads_14 rfl rfl ?_
        refine VW.ild (pc' := 16) d_Query_noteReads_15 rfl (by first | exact hQ.k | exact hQ.k2) (by omega) (by omega) (by first | exact hQ.p2 | exact h0 | rfl) ?_
        refine VW.if_ne (tgt := 25) (pc' := 19) d_Query_noteReads_16 rfl rfl (fun c16 => ?_) (fun c16 => ?_)
        case refine_1 => exact absurd c16 (by omega)
        refine VW.aload_n (pc' := 20) d_Query_noteReads_19 rfl rfl ?_
        refine VW.iload_n (pc' := 21) d_Query_noteReads_20 rfl rfl ?_
        refine VW.aload_n (pc' := 22) d_Query_noteReads_21 rfl rfl ?_
        refine VW.cV (ci := 4) (T := T4) (N := 13) (pc' := 25) d_Query_noteReads_22 rfl mv_Query_noteReadsOf lk_Query_60 rfl (by first | exact hQ.k | exact hQ.k2) rfl rfl rfl (by show cs + c1 ≤ C; omega) (by show ns + n1 ≤ N; omega) (sp) rfl rfl ?_
        refine VW.iinc (pc' := 28) d_Query_noteReads_25 rfl rfl rfl (by omega) ?_
        refine VW.goto (pc' := 2) d_Query_noteReads_28 rfl ?_
        refine VW.pick [0, 1, 2] ?_
        exact n9
    · obtain ⟨l2, c2, n2, K2, P2, I2, g1, g2, g3, g4, g5⟩ := ih (s + 1) l K P I (by omega) hQ hI hV hN (by omega)
      refine ⟨l2, c2, n2, K2, P2, I2, g1, g2, g3, g4.iff (fun t _ _ => ?_) (fun t y => ?_) (by omega), fun C N cs ns hC hN' => ?_⟩
      · constructor
        · rintro ⟨k, k1, k2, k3⟩
          exact ⟨k, by omega, k2, k3⟩
        · rintro ⟨k, k1, k2, k3⟩
          by_cases e : k = s
          · subst e; exact absurd (by rw [hI.2.1]; exact k3.1) hk
          · exact ⟨k, by omega, k2, k3⟩
      · constructor
        · rintro ⟨k, k1, k2, k3⟩
          exact ⟨k, by omega, k2, k3⟩
        · rintro ⟨k, k1, k2, k3⟩
          by_cases e : k = s
          · subst e; exact absurd (by rw [hI.2.1]; exact k3.1) hk
          · exact ⟨k, by omega, k2, k3⟩
      · have n9 := g5 C N cs ns hC hN'
        rw [show ((s + 1 : Nat) : Int) = (s : Int) + 1 by omega] at n9
        clear ih g5
        refine VW.iload_n (pc' := 3) d_Query_noteReads_2 rfl rfl ?_
        refine VW.aload_n (pc' := 4) d_Query_noteReads_3 rfl rfl ?_
        refine VW.gI (ci := 4) (T := T4) (N := 13) (k := 0) (k' := 0) (pc' := 7) d_Query_noteReads_4 rfl lk_Query_33 in4 rfl rfl rfl rfl (by first | exact hQ.k | exact hQ.k2) (by first | exact hQ.p2 | exact h0 | rfl) ?_
        refine VW.icmp_ge (tgt := 31) (pc' := 10) d_Query_noteReads_7 rfl rfl (fun c7 => ?_) (fun c7 => ?_)
        case refine_1 => exact absurd c7 (by omega)
        refine VW.aload_n (pc' := 11) d_Query_noteReads_10 rfl rfl ?_
        refine VW.gP (ci := 4) (T := T4) (N := 13) (k := 2) (k' := 2) (pc' := 14) d_Query_noteReads_11 rfl lk_Query_9 in4 rfl rfl rfl rfl (by first | exact hQ.k | exact hQ.k2) (by first | exact hQ.p2 | exact h0 | rfl) ?_
        refine VW.iload_n (pc' := 15) d_Query_noteReads_14 rfl rfl ?_
        refine VW.ild (pc' := 16) d_Query_noteReads_15 rfl (by first | exact hQ.k | exact hQ.k2) (by omega) (by omega) (by first | exact hQ.p2 | exact h0 | rfl) ?_
        refine VW.if_ne (tgt := 25) (pc' := 19) d_Query_noteReads_16 rfl rfl (fun c16 => ?_) (fun c16 => ?_)
        case refine_2 => exact absurd c16 (by omega)
        refine VW.iinc (pc' := 28) d_Query_noteReads_25 rfl rfl rfl (by omega) ?_
        refine VW.goto (pc' := 2) d_Query_noteReads_28 rfl ?_
        refine VW.pick [0, 1, 2] ?_
        exact n9
section
variable {K : KT} {P : PT} {J I : IT}
theorem note_ex {q i l m n : Nat} (hn : I q 0 = n ∧ n ≤ 12) (hqi : ∀ j, j < 32 → ¬ nTx i (q + j)) (hp : ∀ k : Nat, k < n → I (q + 3) k = 0 → 0 ≤ I (q + 4) ((k : Int) * 4 + 0) ∧ I (q + 4) ((k : Int) * 4 + 0) < 6) (hQ : QuW K P q) (hV : TxV K P i l m) (hN : TxN I i l m) (hb : I (tX i) 14 + n < 100000) :
    ∃ (l' c nn : Nat) (K' : KT) (P' : PT) (I' : IT), (TxV K' P' i l' m ∧ TxN I' i l' m) ∧ Fr (nTx i) K P I K' P' I' ∧ (c + 2 * l = 2 * l' ∧ nn + ps l = ps l') ∧ RdD I I' i l l' m (fun t => ∃ k : Nat, k < n ∧ rdW I q k t) (fun t y => ∃ k : Nat, k < n ∧ rdY I q k t y) n ∧
      Sp m_Query_noteReads false ({ frames := 5, cells := c, slots := nn, locals := 200 } : Room) (ex K' P' J I' (.inl none)) K P J I [vR (some q), vR (some (tX i))] := by
  obtain ⟨l', c, nn, K', P', I', g1, g2, g3, g4, g5⟩ := note_loop (J := J) hn.2 hqi hp hn.1 n 0 l K P I (by omega) hQ ⟨rfl, rfl, rfl⟩ hV hN hb
  refine ⟨l', c, nn, K', P', I', g1, g2, g3, g4.iff (fun t _ _ => ⟨fun ⟨k, _, k2, k3⟩ => ⟨k, k2, k3⟩, fun ⟨k, k2, k3⟩ => ⟨k, by omega, k2, k3⟩⟩) (fun t y => ⟨fun ⟨k, _, k2, k3⟩ => ⟨k, k2, k3⟩, fun ⟨k, k2, k3⟩ => ⟨k, by omega, k2, k3⟩⟩) (Int.le_refl _), ?_⟩
  have l9 := g5 c nn 0 0 (by omega) (by omega)
  refine Sp.ofV (by decide) (Or.inr rfl) rfl ?_
  refine VW.iconst (pc' := 1) d_Query_noteReads_0 rfl (by decide) ?_
  refine VW.istore_n (pc' := 2) d_Query_noteReads_1 rfl rfl ?_
  refine VW.pick [0, 1, 2] ?_
  exact l9
end
