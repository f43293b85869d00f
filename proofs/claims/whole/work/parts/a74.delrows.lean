/-! a delete's rows: the list of those that it writes, and what stands behind it -/
section
variable {A S G : IT} {i : Nat} {s : Int}
theorem chgL_nodup {M : IT} {a : Nat} (h : ∀ p q : Nat, p < 48 → q < 48 → M 1100 (p : Int) ≠ 0 → M 1100 (q : Int) ≠ 0 → (p : Int) / 8 = (q : Int) / 8 → M a ((p : Int) * 4) = M a ((q : Int) * 4) → p = q) : ∀ n : Nat, n ≤ 48 → (chgL M a n).Nodup := by
  intro n
  induction n with
  | zero => intro _; exact List.nodup_nil
  | succ n ih =>
    intro hn
    by_cases c : M 1100 (n : Int) = 0
    · rw [chgL_n c]; exact ih (by omega)
    · rw [chgL_y c]
      refine List.nodup_append.mpr ⟨ih (by omega), by simp, fun x hx y hy e => ?_⟩
      rw [List.mem_singleton.mp hy] at e
      obtain ⟨q, q0, q1, q2⟩ := (chgL_mem n).mp hx
      rw [q2] at e
      have := h q n (by omega) (by omega) q1 c (congrArg Prod.fst e) (congrArg Prod.snd e)
      omega
theorem wdL_nodup {X : IT} (h : ∀ p q : Nat, p < 384 → q < 384 → wdG X s p → wdG X s q → wdK X s p = wdK X s q → p = q) : ∀ n : Nat, n ≤ 384 → (wdL X s n).Nodup := by
  intro n
  induction n with
  | zero => intro _; exact List.nodup_nil
  | succ n ih =>
    intro hn
    by_cases c : wdG X s n
    · rw [wdL_y c]
      refine List.nodup_append.mpr ⟨ih (by omega), by simp, fun x hx y hy e => ?_⟩
      rw [List.mem_singleton.mp hy] at e
      obtain ⟨q, q0, q1, q2⟩ := (wdL_mem n).mp hx
      rw [q2] at e
      have := h q n (by omega) (by omega) q1 c e
      omega
    · rw [wdL_n c]; exact ih (by omega)
/-- both write the same rows -/
theorem del_list {M : IT} (h : DlH A S i s G) (hM : ∀ p, 0 ≤ p → p < 48 → (M 1100 p ≠ 0 ↔ dlD G p)) (hMa : M (tX i + 33) = A (tX i + 33)) : (chgL M (tX i + 33) 48).Perm (wdL (dX S i s) s 384) := by
  have d4 := (dl_set h).2.2.2.1
  have ge := gone_eq h
  have hm := h.1.2.2.2.1.1
  have hS := h.1.1.2
  have hW2 := h.1.2.2.1.2
  have e214 : dX S i s 214 = S 214 := funext (fun k => d4 214 k (by decide) (by decide))
  have e215 : dX S i s 215 = S 215 := funext (fun k => d4 215 k (by decide) (by decide))
  -- a changed place, told by the reference
  have chg : ∀ p, 0 ≤ p → p < 48 → dlD G p → A (tX i + 33) (p * 4) ≠ -2147483648 := fun p p0 p1 hp => by
    rcases hp with hc | hg
    · obtain ⟨-, x, x0, x1, ⟨y1, y2⟩, y3⟩ := (cell_refers h p0 p1).mp hc
      have tg := (hS.2.2.2.2.2.2.2.2 _).resolve_left y1
      exact fun z => (gn_find hm tg y2).2.1 (hW2.2.1 p x p0 p1 z x0 x1)
    · exact ((ge p p0 p1).mp hg).1
  have eqG : ∀ p r, 0 ≤ p → p < 48 → 0 ≤ r → r < S 214 (6 * s + p / 8) → (∀ x, 0 ≤ x → x < 4 → S 215 (mrow s (p / 8) r + x) = A (tX i + 33) (p * 4 + x)) → (G 1099 p ≠ 0 ↔ dX S i s 239 (64 * (p / 8) + r) ≠ 0) → (dlD G p ↔ wdG (dX S i s) s (64 * (p / 8) + r)) := fun p r p0 p1 r0 r1 cell rg => by
    obtain ⟨k1, k2, k3, k4, k5⟩ := rowIn_ix hm (t := p / 8) ⟨by omega, by omega⟩ r0 r1
    unfold dlD wdG
    rw [k1, k2]
    have hin : mRowIn (dX S i s) s (64 * (p / 8) + r) := by unfold mRowIn at *; rw [e214]; exact k5
    rw [cell_refers h p0 p1, row_refers h p0 p1 r0 cell]
    constructor
    · rintro (⟨a, b⟩ | a)
      · exact ⟨hin, Or.inr b⟩
      · exact ⟨hin, Or.inl (rg.mp a)⟩
    · rintro ⟨-, a | a⟩
      · exact Or.inr (rg.mpr a)
      · by_cases g0 : G 1099 p = 0
        · exact Or.inl ⟨g0, a⟩
        · exact Or.inr g0
  refine (List.perm_ext_iff_of_nodup (chgL_nodup (fun p q hp hq cp cq e1 e2 => ?_) 48 (Nat.le_refl _)) (wdL_nodup (fun p q hp hq gp gq e => ?_) 384 (Nat.le_refl _))).mpr (fun x => ?_)
  · rw [hMa] at e2
    have kp := chg p (by omega) (by omega) ((hM p (by omega) (by omega)).mp cp)
    have := hW2.1 ((p : Int) / 8) p q (by omega) (by omega) (by omega) (by omega) (by omega) (by omega) kp e2
    omega
  · obtain ⟨u1, u2⟩ := ix_of (k := (p : Int)) (by omega) (by omega)
    obtain ⟨v1, v2⟩ := ix_of (k := (q : Int)) (by omega) (by omega)
    have e1 := congrArg Prod.fst e
    have e2 := congrArg Prod.snd e
    unfold wdK at e1 e2
    simp only [] at e1 e2
    have g1 := gp.1
    have g2 := gq.1
    unfold mRowIn at g1 g2
    rw [e214] at g1 g2
    rw [u1, u2] at g1
    rw [v1, v2] at g2
    rw [u1, v1] at e1
    rw [u1, u2, v1, v2, e215] at e2
    rw [← e1] at g2 e2
    have := hm.2.1 ((p : Int) / 64) ((p : Int) % 64) ((q : Int) % 64) (by omega) (by omega) (by omega) g1 (by omega) g2 e2
    omega
  · rw [chgL_mem, wdL_mem, hMa]
    constructor
    · rintro ⟨q, q0, q1, q2⟩
      have dq := (hM q (by omega) (by omega)).mp q1
      obtain ⟨r, r0, r1, cell, rk, rg⟩ := pl_row h (p := (q : Int)) (by omega) (by omega) (chg q (by omega) (by omega) dq)
      obtain ⟨k1, k2, k3, k4, k5⟩ := rowIn_ix hm (t := (q : Int) / 8) ⟨by omega, by omega⟩ r0 r1
      refine ⟨(64 * ((q : Int) / 8) + r).toNat, by omega, ?_, ?_⟩
      · rw [Int.toNat_of_nonneg k3]
        exact (eqG q r (by omega) (by omega) r0 r1 cell rg).mp dq
      · rw [Int.toNat_of_nonneg k3, q2]
        unfold wdK
        rw [k1, k2, e215, rk]
    · rintro ⟨k, k0, k1, k2⟩
      obtain ⟨u1, u2⟩ := ix_of (k := (k : Int)) (by omega) (by omega)
      have g1 := k1.1
      unfold mRowIn at g1
      rw [e214, u1, u2] at g1
      obtain ⟨p, p0, p1, p2, cell, pk, pg⟩ := row_pl h (t := (k : Int) / 64) ⟨by omega, by omega⟩ (by omega : 0 ≤ (k : Int) % 64) g1
      have e8 : p / 8 = (k : Int) / 64 := by omega
      rw [← e8] at cell pg g1
      have := (eqG p _ (by omega) (by omega) (by omega) g1 cell pg).mpr (by rw [show 64 * (p / 8) + (k : Int) % 64 = k by omega]; exact k1)
      refine ⟨p.toNat, by omega, ?_, ?_⟩
      · rw [Int.toNat_of_nonneg (by omega)]
        exact (hM p (by omega) (by omega)).mpr this
      · rw [Int.toNat_of_nonneg (by omega), k2]
        unfold wdK
        rw [u1, u2, e215, e8, pk]
/-- a row behind a delete: what refers to rows that go by BLANK is blanked -/
noncomputable def delR (S X : IT) (s t : Int) (ρ : Rw4) : Rw4 := q4 (fun x => if bI (refG S X s t x (g4 ρ x) ∧ S 207 (4 * t + x) = 2) = 1 then -2147483648 else g4 ρ x) 0
theorem g4_del {X : IT} {t x : Int} {ρ : Rw4} (hx : 0 ≤ x ∧ x < 4) : g4 (delR S X s t ρ) x = if bI (refG S X s t x (g4 ρ x) ∧ S 207 (4 * t + x) = 2) = 1 then -2147483648 else g4 ρ x := by
  unfold delR
  rw [g4_q hx, Int.zero_add]
theorem del_key {X : IT} (hS : SSch S) {t : Int} {ρ : Rw4} (ht : 0 ≤ t ∧ t < 6) : (delR S X s t ρ).1 = ρ.1 := by
  have := g4_del (S := S) (X := X) (s := s) (t := t) (x := 0) (ρ := ρ) ⟨by decide, by decide⟩
  have e : g4 (delR S X s t ρ) 0 = (delR S X s t ρ).1 := rfl
  rw [← e, this, if_neg]
  · rfl
  · rw [bI0]
    · decide
    · rintro ⟨⟨a, -⟩, -⟩
      have := (hS.2.2.2.2.2.1 t 0 ht.1 ht.2 (by decide) (by decide)).resolve_left a
      omega
/-- the class's rows behind a delete -/
theorem del_cls {T : IT} (h : DlH A S i s G) (hT : ∀ z, 0 ≤ z → z < 192 → T 1129 z = if bI (rfG G z 2 ∨ G 1099 (z / 4) ≠ 0) = 1 then -2147483648 else A 1129 z) :
    (∀ t ρ', 0 ≤ t → t < 6 → (cIn T 1129 t ρ' ↔ ∃ ρ, cIn A 1129 t ρ ∧ ¬ Gn S (dX S i s) s t ρ.1 ∧ ρ' = delR S (dX S i s) s t ρ)) ∧ RWc T 1129 := by
  have ge := gone_eq h
  have hcp := h.2.1
  have hS := h.1.1.2
  have hW := h.1.2.1.2
  have g01 : ∀ p, 0 ≤ p → p < 48 → (G 1099 p ≠ 0 ↔ A 1129 (p * 4) ≠ -2147483648 ∧ Gn S (dX S i s) s (p / 8) (A 1129 (p * 4))) := fun p p0 p1 => by rw [hcp _ (by omega) (by omega)]; exact ge p p0 p1
  -- a cell of a place that stays
  have stay : ∀ p x, 0 ≤ p → p < 48 → G 1099 p = 0 → 0 ≤ x → x < 4 → T 1129 (p * 4 + x) = if bI (refG S (dX S i s) s (p / 8) x (A 1129 (p * 4 + x)) ∧ S 207 (4 * (p / 8) + x) = 2) = 1 then -2147483648 else A 1129 (p * 4 + x) := fun p x p0 p1 hg x0 x1 => by
    rw [hT _ (by omega) (by omega)]
    have e : (rfG G (p * 4 + x) 2 ∨ G 1099 ((p * 4 + x) / 4) ≠ 0) ↔ (refG S (dX S i s) s (p / 8) x (A 1129 (p * 4 + x)) ∧ S 207 (4 * (p / 8) + x) = 2) := by
      rw [rfG_eq h (by omega) (by omega), show (p * 4 + x) / 4 = p by omega, show (p * 4 + x) / 32 = p / 8 by omega, show (p * 4 + x) % 4 = x by omega, hcp _ (by omega) (by omega)]
      exact ⟨fun z => z.elim (fun q => q.2) (fun q => absurd hg q), fun z => Or.inl ⟨hg, z⟩⟩
    rw [bIc e]
  have gone : ∀ p x, 0 ≤ p → p < 48 → G 1099 p ≠ 0 → 0 ≤ x → x < 4 → T 1129 (p * 4 + x) = -2147483648 := fun p x p0 p1 hg x0 x1 => by
    rw [hT _ (by omega) (by omega), if_pos (bI1 (Or.inr (by rw [show (p * 4 + x) / 4 = p by omega]; exact hg)))]
  have key : ∀ p, 0 ≤ p → p < 48 → G 1099 p = 0 → T 1129 (p * 4) = A 1129 (p * 4) := fun p p0 p1 hg => by
    have := stay p 0 p0 p1 hg (by decide) (by decide)
    rw [Int.add_zero] at this
    rw [this, if_neg]
    rw [bI0]
    · decide
    · rintro ⟨⟨a, -⟩, -⟩
      have := (hS.2.2.2.2.2.1 (p / 8) 0 (by omega) (by omega) (by decide) (by decide)).resolve_left a
      omega
  have nul : ∀ p, 0 ≤ p → p < 48 → T 1129 (p * 4) ≠ -2147483648 → G 1099 p = 0 := fun p p0 p1 hk => Classical.byContradiction (fun z => hk (by have := gone p 0 p0 p1 z (by decide) (by decide); rwa [Int.add_zero] at this))
  have row : ∀ p, 0 ≤ p → p < 48 → G 1099 p = 0 → q4 (T 1129) (p * 4) = delR S (dX S i s) s (p / 8) (q4 (A 1129) (p * 4)) := fun p p0 p1 hg => r4_ext (fun x x0 x1 => by
    rw [g4_q ⟨x0, x1⟩, g4_del ⟨x0, x1⟩, g4_q ⟨x0, x1⟩]
    exact stay p x p0 p1 hg x0 x1)
  refine ⟨fun t ρ' t0 t1 => ?_, fun t p q t0 t1 p0 p1 q0 q1 hp hpq => ?_, fun p c p0 p1 hp c0 c1 => ?_, fun z z0 z1 => ?_⟩
  · unfold cIn
    constructor
    · rintro ⟨p, p0, p1, p2, rfl⟩
      have hg := nul p (by omega) (by omega) p2
      rw [key p (by omega) (by omega) hg] at p2
      have e8 : p / 8 = t := by omega
      refine ⟨_, ⟨p, p0, p1, p2, rfl⟩, fun z => ?_, ?_⟩
      · exact (g01 p (by omega) (by omega)).mpr ⟨p2, by rw [e8]; exact z⟩ hg
      · rw [row p (by omega) (by omega) hg, e8]
    · rintro ⟨ρ, ⟨p, p0, p1, p2, rfl⟩, hn, rfl⟩
      have e8 : p / 8 = t := by omega
      have hg : G 1099 p = 0 := Classical.byContradiction (fun z => hn (by have := ((g01 p (by omega) (by omega)).mp z).2; rw [e8] at this; exact this))
      refine ⟨p, p0, p1, by rw [key p (by omega) (by omega) hg]; exact p2, ?_⟩
      rw [row p (by omega) (by omega) hg, e8]
  · have h1 := nul p (by omega) (by omega) hp
    have h2 := nul q (by omega) (by omega) (by rw [← hpq]; exact hp)
    rw [key p (by omega) (by omega) h1] at hp hpq
    rw [key q (by omega) (by omega) h2] at hpq
    exact hW.1 t p q t0 t1 p0 p1 q0 q1 hp hpq
  · by_cases hg : G 1099 p = 0
    · rw [key p p0 p1 hg] at hp
      rw [stay p c p0 p1 hg c0 c1]
      split
      · rfl
      · exact hW.2.1 p c p0 p1 hp c0 c1
    · exact gone p c p0 p1 hg c0 c1
  · rw [hT z z0 z1]
    split
    · exact Or.inl rfl
    · exact hW.2.2 z z0 z1
end
