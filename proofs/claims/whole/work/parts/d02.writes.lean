/-! what an allowed write writes, by its kind -/
section
variable {I S A : IT} {i l : Nat} {s : Int}
/-- an allowed write W of i in its rows s: S before, S2 behind it -/
def WsF (S S2 W : IT) (i : Nat) (s : Int) : Prop := ∃ n : Nat, W 100 41 = n ∧ (wtL W n).Nodup ∧ (∀ x ∈ wtL W n, 0 ≤ x.1 ∧ x.1 < 6) ∧ RWm S2 s ∧
  (∀ t y, 0 ≤ t → t < 6 → (t, y) ∉ wtL W n → cw (S 201 t) S2 s t y = cw (S 201 t) S s t y) ∧
  (∀ t ρ', 0 ≤ t → t < 6 → mIn S2 s t ρ' → (∃ ρ, mIn S s t ρ ∧ ρ.1 = ρ'.1) ∨ (S 227 i = 0 ∧ (t, ρ'.1) ∈ wtL W n)) ∧
  (S 227 i ≠ 0 → ∀ x ∈ wtL W n, ∃ ρ, mIn S s x.1 ρ ∧ ρ.1 = x.2) ∧
  (S 227 i = 0 → n = 1 ∧ ∀ x ∈ wtL W n, cw (S 201 x.1) S s x.1 x.2 = 0 ∧ x.1 = S 228 i) ∧
  (S 227 i = 1 → n = 1 ∧ ∀ x ∈ wtL W n, cw (S 201 x.1) S2 s x.1 x.2 ≤ cw (S 201 x.1) S s x.1 x.2 + 1) ∧
  (S 227 i ≠ 0 → S 227 i ≠ 1 → ∀ x ∈ wtL W n, cw (S 201 x.1) S2 s x.1 x.2 ≤ cw (S 201 x.1) S s x.1 x.2 ∧ (x ≠ (S 228 i, S 229 i) → cw (S 201 x.1) S2 s x.1 x.2 + 1 ≤ cw (S 201 x.1) S s x.1 x.2)) ∧ SlF S S2 s
theorem cw_of {X : IT} {w : Int} (h4 : X 214 = S 214) (h5 : X 215 = S 215) (t y : Int) : cw w X s t y = cw w S s t y := by
  unfold cw mValue mfind
  rw [h4, h5]
theorem mIn_of2 {X : IT} (h4 : X 214 = S 214) (h5 : X 215 = S 215) (t : Int) (ρ : Rw4) : mIn X s t ρ ↔ mIn S s t ρ := by
  unfold mIn
  rw [h4, h5]
theorem wr_del (h : TriH I S i l s) (k0 : S 227 i ≠ 0) (k1 : S 227 i ≠ 1) (hQ : mWantQ (up2 S 100 41 0) i) {W2 : IT} (hf : lgFr (mWantI (up2 S 100 41 0) i) W2) : WsF S (mDoesS W2 i s (S 228 i)) (mWantI (up2 S 100 41 0) i) i s := by
  obtain ⟨hA, hcp, hpA, hrA⟩ := h.A
  have t6 := hA.t6
  obtain ⟨⟨hR, hS⟩, ⟨hE, hW⟩, ⟨hm, hk⟩, ⟨hs, h1⟩, hp, hrd, hn, h4⟩ := h
  have g9 := hpA.2.2.2.1 k0
  obtain ⟨eW, eQ⟩ := mWant_d (I := up2 S 100 41 0) (i := (i : Int)) (by rw [s41 (by decide)]; exact k0) (by rw [s41 (by decide)]; exact k1)
  rw [s41 (by decide), s41 (by decide), s41 (by decide), hs] at eW eQ
  have m00 : ∀ o, o ≠ 233 → o ≠ 234 → o ≠ 235 → o ≠ 100 → mReadsKey (up2 S 100 41 0) i (S 228 i) (S 229 i) o = S o := fun o a b c d => funext (fun k => (mReadsKey_fr o k a b c).trans (by rw [s41 d]))
  have m1h : ∀ k, k ≠ 41 → mReadsKey (up2 S 100 41 0) i (S 228 i) (S 229 i) 100 k = S 100 k := fun k hk => (mReadsKey_fr 100 k (by decide) (by decide) (by decide)).trans (up2_k _ _ _ _ hk)
  have m41 : mReadsKey (up2 S 100 41 0) i (S 228 i) (S 229 i) 100 41 = 0 := (mReadsKey_fr 100 41 (by decide) (by decide) (by decide)).trans (up2_eq _ _ _ _)
  have hA1 : TrH (alI I i) (mReadsKey (up2 S 100 41 0) i (S 228 i) (S 229 i)) i s := hA.ofS (fun o k ho => by
    rcases ho with ho | ⟨ho, hk'⟩
    · rw [m00 o (by omega) (by omega) (by omega) (by omega)]
    · rw [ho, m1h k (by omega)])
  have e28 := m00 228 (by decide) (by decide) (by decide) (by decide)
  have e29 := m00 229 (by decide) (by decide) (by decide) (by decide)
  have e20 := m00 220 (by decide) (by decide) (by decide) (by decide)
  have e01 := m00 201 (by decide) (by decide) (by decide) (by decide)
  have e14 := m00 214 (by decide) (by decide) (by decide) (by decide)
  have e15 := m00 215 (by decide) (by decide) (by decide) (by decide)
  have hDQ : mDelQ (mReadsKey (up2 S 100 41 0) i (S 228 i) (S 229 i)) i s (S 228 i) (S 229 i) := bIn (by rw [← eQ, bI1 hQ]; decide)
  have yF := hDQ.1
  rw [mDelI_1 yF] at eW
  generalize mReadsKey (up2 S 100 41 0) i (S 228 i) (S 229 i) = S0 at *
  have g9' : alI I i (tX i) 9 = S0 229 i := by rw [e29]; exact g9
  have seen := (seeP_eq hA1 g9').1.mpr (by rw [e28, e29]; exact yF)
  obtain ⟨G, hG, hcl⟩ := spt_ex (D := dlI (alI I i) i) (dlI_r (SchB.of2 hA1.1.1 hA1.1.2)) (fun p p0 p1 => dlI_g p p0 p1)
  have hD : DlH (alI I i) S0 i s G := ⟨hA1, hcp, g9', seen, hG, hcl⟩
  have eX : dX S0 i s = mDelX S0 s (S 228 i) (S 229 i) := by unfold dX; rw [e28, e29]
  rw [← eX] at eW
  obtain ⟨n, f1, f2, f3, f4, f5, f6⟩ := del_facts hD (fun t => by rw [e01]; exact h4 t) (by omega) m41 eW hf
  rw [e28, e29, e01] at f6
  rw [e01] at f5
  have e227 : W2 227 i = S 227 i := (hf 227 i (by omega) (Or.inl (by decide))).trans (by rw [eW]; exact (mWdE_fr 227 i (by unfold wdX; omega)).trans (((dl_set hD).2.2.2.1 227 i (by decide) (by decide)).trans (congrFun (m00 227 (by decide) (by decide) (by decide) (by decide)) i)))
  have eD : mDoesS W2 i s (S 228 i) = mDeletes W2 s := by
    unfold mDoesS
    rw [e227, if_neg k0, if_neg k1]
  have w240 : ∀ k, 0 ≤ k → k < 384 → (W2 240 k ≠ 0 ↔ mRowIn (dX S0 i s) s k ∧ dX S0 i s 239 k = 0 ∧ mRefers (dX S0 i s) s (k.tdiv 64) (k.tmod 64) 2) := fun k a b => by
    obtain ⟨-, -, -, d4, -, d6, -, -⟩ := dl_set hD
    have x41 : dX S0 i s 100 41 = 0 := (d4 100 41 (by decide) (by decide)).trans m41
    obtain ⟨-, -, -, e240, -⟩ := mWd_set (X := dX S0 i s) (s := s) (i := (i : Int)) (by omega) x41 d6 384 (Nat.le_refl _)
    have : W2 240 k = mWd i s 384 (dX S0 i s) 240 k := (hf 240 k (by omega) (Or.inl (by decide))).trans (by rw [eW]; unfold mWdE; exact mSortN_fr _ 240 k (by decide) (by decide))
    rw [this, e240 k a b]
    exact ⟨fun z => z.2, fun z => ⟨by omega, z⟩⟩
  have dq := (del_ref hD (fun t => by rw [e01]; exact h4 t) (W := W2) (fun o k ho => (hf o k (by omega) (Or.inl (by omega))).trans (by rw [eW]; exact mWdE_fr o k (by unfold wdX; omega))) w240)
  have dr := dq.1
  rw [eD]
  refine ⟨n, f1, f2, fun x hx => (f3 x hx).1, f4, fun t y t0 t1 hn => ?_, fun t ρ' t0 t1 hρ => ?_, fun _ x hx => ?_, fun z => absurd z k0, fun z => absurd z k1, fun _ _ x hx => ?_, ⟨fun k hk => (dq.2.2.1 k hk).trans (congrFun e14 k), fun z hz => (dq.2.2.2 z hz).trans (congrFun e15 z)⟩⟩
  · rw [f5 t y t0 t1 hn, cw_of e14 e15]
  · obtain ⟨ρ, a, -, b⟩ := (dr t ρ' t0 t1).mp hρ
    exact Or.inl ⟨ρ, (mIn_of2 e14 e15 t ρ).mp a, by rw [b, del_key hA1.1.2 ⟨t0, t1⟩]⟩
  · obtain ⟨ρ, a, b⟩ := (f3 x hx).2
    exact ⟨ρ, (mIn_of2 e14 e15 _ ρ).mp a, b⟩
  · have := f6 x hx
    rw [cw_of e14 e15] at this
    exact this
end
