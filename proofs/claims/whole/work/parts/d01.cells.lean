/-! cells that aren't NULL, before a delete and behind it -/
section
variable {I S S' A G W X : IT} {i l : Nat} {s : Int}
/-- the cells of the row of a key, behind the key, that aren't NULL -/
noncomputable def cw (w : Int) (S : IT) (s t y : Int) : Nat := nulw w 1 (mValue S s t y 1) + nulw w 2 (mValue S s t y 2) + nulw w 3 (mValue S s t y 3)
theorem nulw_le (w c v : Int) : nulw w c v ≤ 1 ∧ (w ≤ c → nulw w c v = 0) := by
  unfold nulw
  have := nul1_le v
  split
  · exact ⟨this, fun _ => by omega⟩
  · exact ⟨Nat.zero_le _, fun _ => rfl⟩
theorem cw_le (w : Int) (hw : 1 ≤ w) (S : IT) (s t y : Int) : cw w S s t y ≤ (w - 1).toNat := by
  unfold cw
  obtain ⟨a1, b1⟩ := nulw_le w 1 (mValue S s t y 1)
  obtain ⟨a2, b2⟩ := nulw_le w 2 (mValue S s t y 2)
  obtain ⟨a3, b3⟩ := nulw_le w 3 (mValue S s t y 3)
  by_cases y1 : w ≤ 1
  · have := b1 y1; have := b2 (by omega); have := b3 (by omega); omega
  · by_cases y2 : w ≤ 2
    · have := b2 y2; have := b3 (by omega); omega
    · by_cases y3 : w ≤ 3
      · have := b3 y3; omega
      · omega
theorem cw_in {w : Int} (hm : RWm X s) {t : Int} (ht : 0 ≤ t ∧ t < 6) {ρ : Rw4} (h : mIn X s t ρ) : cw w X s t ρ.1 = ncl w ρ := by
  obtain ⟨r, r0, r1, rfl⟩ := h
  have mf := mfind_at hm ht r0 r1
  have kn := (hm.2.2 t r ht.1 ht.2 r0 r1).1
  have e1 : (q4 (X 215) (mrow s t r)).1 = X 215 (mrow s t r) := by
    have := g4_q (f := X 215) (b := mrow s t r) (c := 0) ⟨by decide, by decide⟩
    rw [Int.add_zero] at this
  have val : ∀ c, 0 ≤ c → c < 4 → mValue X s t (X 215 (mrow s t r)) c = g4 (q4 (X 215) (mrow s t r)) c := fun c c0 c1 => by
    unfold mValue
    rw [mf, if_neg (fun z => z.elim kn (fun w => by omega)), g4_q ⟨c0, c1⟩]
  unfold cw ncl
  rw [e1, val 1 (by decide) (by decide), val 2 (by decide) (by decide), val 3 (by decide) (by decide)]
theorem cw_none {w : Int} (hm : RWm X s) {t y : Int} (ht : 0 ≤ t ∧ t < 6) (h : ∀ ρ, mIn X s t ρ → ρ.1 ≠ y) : cw w X s t y = 0 := by
  have mf : mfind X s t y = -1 := Classical.byContradiction (fun z => by
    obtain ⟨ρ, a, b⟩ := (mfind_in hm ht).mp z
    exact h ρ a b)
  have val : ∀ c, mValue X s t y c = -2147483648 := fun c => if_pos (Or.inr mf)
  have z : ∀ c, nulw w c (-2147483648) = 0 := fun c => by
    unfold nulw
    split
    · rfl
    · rfl
  unfold cw
  rw [val, val, val, z, z, z]
theorem cw_same {w : Int} (hm : RWm X s) (hm' : RWm S' s) {t y : Int} (ht : 0 ≤ t ∧ t < 6) (h : ∀ ρ, ρ.1 = y → (mIn S' s t ρ ↔ mIn X s t ρ)) : cw w S' s t y = cw w X s t y := by
  by_cases z : ∃ ρ, mIn X s t ρ ∧ ρ.1 = y
  · obtain ⟨ρ, a, b⟩ := z
    have a' := (h ρ b).mpr a
    have c1 := cw_in (w := w) hm ht a
    have c2 := cw_in (w := w) hm' ht a'
    rw [b] at c1 c2
    rw [c1, c2]
  · rw [cw_none hm ht (fun ρ a b => z ⟨ρ, a, b⟩), cw_none hm' ht (fun ρ a b => z ⟨ρ, (h ρ b).mp a, b⟩)]
theorem nul1_0 {v : Int} (h : v = -2147483648) : nul1 v = 0 := if_pos h
theorem nul1_1 {v : Int} (h : v ≠ -2147483648) : nul1 v = 1 := if_neg h
theorem nulw_up {w c v v' : Int} (h : v' = v ∨ v' = -2147483648) : nulw w c v' ≤ nulw w c v := by
  unfold nulw
  split
  · rcases h with e | e
    · rw [e]; exact Nat.le_refl _
    · rw [nul1_0 e]; exact Nat.zero_le _
  · exact Nat.le_refl _
theorem del_at {t c : Int} {ρ : Rw4} (hc : 0 ≤ c ∧ c < 4) : g4 (delR S X s t ρ) c = g4 ρ c ∨ g4 (delR S X s t ρ) c = -2147483648 := by
  rw [g4_del hc]
  split
  · exact Or.inr rfl
  · exact Or.inl rfl
/-- a blanked row has less cells -/
theorem ncl_del {w t x : Int} {ρ : Rw4} (hx : 1 ≤ x ∧ x < 4) (hw : x < w) (h : refG S X s t x (g4 ρ x) ∧ S 207 (4 * t + x) = 2) (hn : g4 ρ x ≠ -2147483648) : ncl w (delR S X s t ρ) + 1 ≤ ncl w ρ := by
  have lx : nulw w x (g4 (delR S X s t ρ) x) = 0 := by
    rw [g4_del ⟨by omega, hx.2⟩, if_pos (bI1 h)]
    unfold nulw
    rw [if_pos hw]
    exact nul1_0 rfl
  have l1 : nulw w x (g4 ρ x) = 1 := by
    unfold nulw
    rw [if_pos hw]
    exact nul1_1 hn
  have a1 := nulw_up (w := w) (c := 1) (del_at (S := S) (X := X) (s := s) (t := t) (c := 1) (ρ := ρ) ⟨by decide, by decide⟩)
  have a2 := nulw_up (w := w) (c := 2) (del_at (S := S) (X := X) (s := s) (t := t) (c := 2) (ρ := ρ) ⟨by decide, by decide⟩)
  have a3 := nulw_up (w := w) (c := 3) (del_at (S := S) (X := X) (s := s) (t := t) (c := 3) (ρ := ρ) ⟨by decide, by decide⟩)
  unfold ncl
  have xs : x = 1 ∨ x = 2 ∨ x = 3 := by omega
  rcases xs with e | e | e <;> subst e <;> omega
theorem ncl_pos {w : Int} {ρ : Rw4} {c : Int} (hc : 1 ≤ c ∧ c < 4) (hw : c < w) (h : g4 ρ c ≠ -2147483648) : 1 ≤ ncl w ρ := by
  have l1 : nulw w c (g4 ρ c) = 1 := by
    unfold nulw
    rw [if_pos hw]
    exact nul1_1 h
  unfold ncl
  have xs : c = 1 ∨ c = 2 ∨ c = 3 := by omega
  rcases xs with e | e | e <;> subst e <;> omega
/-- what an allowed delete writes, and what it leaves of the cells -/
theorem del_facts (h : DlH A S i s G) (hb : ∀ t, S 201 t ≤ 4) (hi0 : 0 ≤ (i : Int)) (h41 : S 100 41 = 0) (eW : W = mWdE i s (dX S i s)) {W2 : IT} (hf : lgFr W W2) :
    ∃ n : Nat, W 100 41 = n ∧ (wtL W n).Nodup ∧ (∀ x ∈ wtL W n, (0 ≤ x.1 ∧ x.1 < 6) ∧ ∃ ρ, mIn S s x.1 ρ ∧ ρ.1 = x.2) ∧ RWm (mDeletes W2 s) s ∧ (∀ t y, 0 ≤ t → t < 6 → (t, y) ∉ wtL W n → cw (S 201 t) (mDeletes W2 s) s t y = cw (S 201 t) S s t y) ∧ ∀ x ∈ wtL W n, cw (S 201 x.1) (mDeletes W2 s) s x.1 x.2 ≤ cw (S 201 x.1) S s x.1 x.2 ∧ (x ≠ (S 228 i, S 229 i) → cw (S 201 x.1) (mDeletes W2 s) s x.1 x.2 + 1 ≤ cw (S 201 x.1) S s x.1 x.2) := by
  obtain ⟨d1, d2, d3, d4, d5, d6, d7, d8⟩ := dl_set h
  have hm := h.1.2.2.2.1.1
  have hS := h.1.1.2
  have t6 := h.1.t6
  have x41 : dX S i s 100 41 = 0 := (d4 100 41 (by decide) (by decide)).trans h41
  obtain ⟨fr, e41, eL, e240, mr⟩ := mWd_set (X := dX S i s) (s := s) hi0 x41 d6 384 (Nat.le_refl _)
  have fW : ∀ o k, ¬ wdX o k → W o k = dX S i s o k := fun o k ho => by rw [eW]; exact mWdE_fr o k ho
  have w240 : ∀ k, 0 ≤ k → k < 384 → (W 240 k ≠ 0 ↔ mRowIn (dX S i s) s k ∧ dX S i s 239 k = 0 ∧ mRefers (dX S i s) s (k.tdiv 64) (k.tmod 64) 2) := fun k a b => by
    have : W 240 k = mWd i s 384 (dX S i s) 240 k := by rw [eW]; unfold mWdE; exact mSortN_fr _ 240 k (by decide) (by decide)
    rw [this, e240 k a b]
    exact ⟨fun z => z.2, fun z => ⟨by omega, z⟩⟩
  have w41 : W 100 41 = (wdL (dX S i s) s 384).length := by
    have : W 100 41 = mWd i s 384 (dX S i s) 100 41 := by rw [eW]; unfold mWdE; exact mSortN_fr _ 100 41 (by decide) (by decide)
    rw [this, e41]
  have sl := wdE_list (X := dX S i s) (i := (i : Int)) (s := s) e41
  rw [eL, ← eW] at sl
  have x214 : dX S i s 214 = S 214 := funext (fun k => d4 214 k (by decide) (by decide))
  have x215 : dX S i s 215 = S 215 := funext (fun k => d4 215 k (by decide) (by decide))
  have memW : ∀ x, x ∈ wtL W (wdL (dX S i s) s 384).length ↔ ∃ k : Nat, k < 384 ∧ wdG (dX S i s) s k ∧ x = wdK (dX S i s) s k := fun x => by rw [sl.1.mem_iff, wdL_mem]
  obtain ⟨r1, r2, -⟩ := del_ref h hb (W := W2) (fun o k ho => (hf o k (by omega) (Or.inl (by omega))).trans (fW o k (by unfold wdX; omega))) (fun k a b => by rw [hf 240 k (by omega) (Or.inl (by decide))]; exact w240 k a b)
  have nd : (wdL (dX S i s) s 384).Nodup := wdL_nodup (fun p q hp hq gp gq e => by
    obtain ⟨u1, u2⟩ := ix_of (k := (p : Int)) (by omega) (by omega)
    obtain ⟨v1, v2⟩ := ix_of (k := (q : Int)) (by omega) (by omega)
    unfold wdK at e
    rw [u1, u2, v1, v2, x215] at e
    obtain ⟨ea, eb⟩ := Prod.mk.inj e
    have g1 := gp.1
    have g2 := gq.1
    unfold mRowIn at g1 g2
    rw [u1, u2, x214] at g1
    rw [v1, v2, x214] at g2
    rw [← ea] at g2 eb
    have := hm.2.1 ((p : Int) / 64) ((p : Int) % 64) ((q : Int) % 64) (by omega) (by omega) (by omega) g1 (by omega) g2 eb
    omega) 384 (Nat.le_refl _)
  refine ⟨(wdL (dX S i s) s 384).length, w41, sl.1.nodup_iff.mpr nd, fun x hx => ?_, r2, fun t y t0 t1 hn => ?_, fun x hx => ?_⟩
  · obtain ⟨k, a, b, e⟩ := (memW x).mp hx
    obtain ⟨u1, u2⟩ := ix_of (k := (k : Int)) (by omega) (by omega)
    have g1 := b.1
    unfold mRowIn at g1
    rw [u1, u2, x214] at g1
    rw [e]
    unfold wdK
    rw [u1, u2, x215]
    refine ⟨⟨by show 0 ≤ (k : Int) / 64; omega, by show (k : Int) / 64 < 6; omega⟩, q4 (S 215) (mrow s ((k : Int) / 64) ((k : Int) % 64)), ⟨_, by omega, g1, rfl⟩, ?_⟩
    have := g4_q (f := S 215) (b := mrow s ((k : Int) / 64) ((k : Int) % 64)) (c := 0) ⟨by decide, by decide⟩
    rw [Int.add_zero] at this
  · -- a row that isn't written stays as it is
    have stays : ∀ σ, mIn S s t σ → σ.1 = y → ¬ Gn S (dX S i s) s t σ.1 ∧ delR S (dX S i s) s t σ = σ := by
      rintro σ ⟨q, q0, q1, rfl⟩ e
      obtain ⟨v1, v2, v3, v4, v5⟩ := rowIn_ix hm ⟨t0, t1⟩ q0 q1
      have hin : mRowIn (dX S i s) s (64 * t + q) := by unfold mRowIn at *; rw [x214]; exact v5
      have ng : ¬ wdG (dX S i s) s (64 * t + q) := fun z => hn ((memW _).mpr ⟨(64 * t + q).toNat, by omega, by rw [Int.toNat_of_nonneg v3]; exact z, by
        rw [Int.toNat_of_nonneg v3]
        unfold wdK
        rw [v1, v2, x215, ← e]⟩)
      have n1 : dX S i s 239 (64 * t + q) = 0 := Classical.byContradiction (fun z => ng ⟨hin, Or.inl z⟩)
      have n2 : ¬ mRefers (dX S i s) s t q 2 := fun z => ng ⟨hin, Or.inr (by rw [v1, v2]; exact z)⟩
      refine ⟨fun z => (gn_ix hm ⟨t0, t1⟩ q0 q1).mp z n1, r4_ext (fun x x0 x1 => ?_)⟩
      rw [g4_del ⟨x0, x1⟩, if_neg]
      rw [bI0]
      · decide
      · rintro ⟨z1, z2⟩
        rw [g4_q ⟨x0, x1⟩] at z1
        exact n2 ((refers_eq hS hm d4 ⟨t0, t1⟩).mpr ⟨x, x0, x1, z1, z2⟩)
    refine cw_same hm r2 ⟨t0, t1⟩ (fun ρ e => ?_)
    rw [r1 t ρ t0 t1]
    constructor
    · rintro ⟨σ, a, b, e2⟩
      have ek : σ.1 = y := by rw [← e, e2, del_key hS ⟨t0, t1⟩]
      rw [e2, (stays σ a ek).2]; exact a
    · intro a
      obtain ⟨b, e2⟩ := stays ρ a e
      exact ⟨ρ, a, b, e2.symm⟩
  · obtain ⟨k, a, b, e⟩ := (memW x).mp hx
    obtain ⟨u1, u2⟩ := ix_of (k := (k : Int)) (by omega) (by omega)
    have g1 := b.1
    unfold mRowIn at g1
    rw [u1, u2, x214] at g1
    have tk : 0 ≤ (k : Int) / 64 ∧ (k : Int) / 64 < 6 := by omega
    have rk : 0 ≤ (k : Int) % 64 := by omega
    have e3 : x = ((k : Int) / 64, S 215 (mrow s ((k : Int) / 64) ((k : Int) % 64))) := by
      rw [e]; unfold wdK; rw [u1, u2, x215]
    have keyq : (q4 (S 215) (mrow s ((k : Int) / 64) ((k : Int) % 64))).1 = S 215 (mrow s ((k : Int) / 64) ((k : Int) % 64)) := by
      have := g4_q (f := S 215) (b := mrow s ((k : Int) / 64) ((k : Int) % 64)) (c := 0) ⟨by decide, by decide⟩
      rw [Int.add_zero] at this
    have hin : mIn S s ((k : Int) / 64) (q4 (S 215) (mrow s ((k : Int) / 64) ((k : Int) % 64))) := ⟨_, rk, g1, rfl⟩
    have before := cw_in (w := S 201 ((k : Int) / 64)) hm tk hin
    rw [keyq] at before
    have dk : (k : Int) = 64 * ((k : Int) / 64) + (k : Int) % 64 := by omega
    rw [e3]
    show cw (S 201 ((k : Int) / 64)) (mDeletes W2 s) s ((k : Int) / 64) (S 215 (mrow s ((k : Int) / 64) ((k : Int) % 64))) ≤ cw (S 201 ((k : Int) / 64)) S s ((k : Int) / 64) (S 215 (mrow s ((k : Int) / 64) ((k : Int) % 64))) ∧ _
    by_cases gone : dX S i s 239 (64 * ((k : Int) / 64) + (k : Int) % 64) ≠ 0
    · have gn := (gn_ix hm tk rk g1).mpr gone
      have c0 : cw (S 201 ((k : Int) / 64)) (mDeletes W2 s) s ((k : Int) / 64) (S 215 (mrow s ((k : Int) / 64) ((k : Int) % 64))) = 0 := cw_none r2 tk (fun ρ hρ eρ => by
        obtain ⟨σ, a1, a2, a3⟩ := (r1 _ ρ tk.1 tk.2).mp hρ
        rw [a3, del_key hS tk] at eρ
        rw [eρ] at a2
        exact a2 gn)
      rw [c0]
      refine ⟨Nat.zero_le _, fun hne => ?_⟩
      rcases del_why h tk rk g1 gone with ⟨z1, z2⟩ | ⟨c, ⟨c1, cw0, c2⟩, c3⟩
      · exact (hne (by rw [z1] at z2 ⊢; rw [z2])).elim
      · rw [before]
        have := ncl_pos (ρ := q4 (S 215) (mrow s ((k : Int) / 64) ((k : Int) % 64))) ⟨c1, c2⟩ cw0 (by rw [g4_q ⟨by omega, c2⟩]; exact c3)
        show 0 + 1 ≤ _
        omega
    · have ref : mRefers (dX S i s) s ((k : Int) / 64) ((k : Int) % 64) 2 := by
        rcases b.2 with z | z
        · rw [dk] at z; exact (gone z).elim
        · rw [u1, u2] at z; exact z
      have ref0 := ref
      obtain ⟨c, c0, c1, z1, z2⟩ := (refers_eq hS hm d4 tk).mp ref
      have c01 : 1 ≤ c := by
        have := (hS.2.2.2.2.2.1 _ c tk.1 tk.2 c0 c1).resolve_left z1.1
        omega
      have nn : S 215 (mrow s ((k : Int) / 64) ((k : Int) % 64) + c) ≠ -2147483648 := by
        have r6 := (hS.2.2.2.2.2.1 _ c tk.1 tk.2 c0 c1).resolve_left z1.1
        obtain ⟨r, ra, rb, rc, rd⟩ := z1.2
        have s6 := hS.1.2
        intro w
        have t9 : 0 ≤ S 206 (4 * ((k : Int) / 64) + c) ∧ S 206 (4 * ((k : Int) / 64) + c) < 6 := by
          have := hS.2.2.2.2.2.2.2.2 (4 * ((k : Int) / 64) + c)
          have := z1.1
          omega
        exact (hm.2.2 _ r t9.1 t9.2 ra rb).1 (rc.trans w)
      have hgn : ¬ Gn S (dX S i s) s ((k : Int) / 64) (q4 (S 215) (mrow s ((k : Int) / 64) ((k : Int) % 64))).1 := fun w => by
        rw [keyq] at w
        exact gone ((gn_ix hm tk rk g1).mp w)
      have cwd : c < S 201 ((k : Int) / 64) := ((hS.2.2.2.2.2.1 _ c tk.1 tk.2 c0 c1).resolve_left z1.1).2.2.1
      have after := cw_in (w := S 201 ((k : Int) / 64)) r2 tk ((r1 _ _ tk.1 tk.2).mpr ⟨_, hin, hgn, rfl⟩)
      rw [del_key hS tk, keyq] at after
      have lt := ncl_del (S := S) (X := dX S i s) (s := s) (t := (k : Int) / 64) (ρ := q4 (S 215) (mrow s ((k : Int) / 64) ((k : Int) % 64))) (x := c) (w := S 201 ((k : Int) / 64)) ⟨c01, c1⟩ cwd (by rw [g4_q ⟨c0, c1⟩]; exact ⟨z1, z2⟩) (by rw [g4_q ⟨c0, c1⟩]; exact nn)
      rw [after, before]
      exact ⟨by omega, fun _ => lt⟩
end
