/-! what settling leaves -/
section
variable {K K' : KT} {P P' : PT} {I I' S S' X T : IT} {c n N g lq nq lqq tn nv l3 l4 w : Nat} {lv mv : Nat → Nat} {q : Int} {M : List (List Int)}
theorem ab_fr {i : Int} {o : Nat} {k : Int} (h1 : o < 246 ∨ 249 < o) (h2 : o ≠ 100 ∨ k ≠ 44) : ∀ (m : Nat) (S : IT) (d : Int), (mAb i m S d).1 o k = S o k
  | 0, _, _ => rfl
  | m + 1, S, d => by
    by_cases y : S 246 m = 0 ∧ S 247 m = i
    · rw [mAb_yes y, ab_fr h1 h2 m]
      exact mnotes_fr o k h1 h2
    · rw [mAb_no y, ab_fr h1 h2 m]
theorem lo_fr {i : Int} {o : Nat} {k : Int} (h1 : o < 246 ∨ 249 < o) (h2 : o ≠ 100 ∨ k ≠ 44) : ∀ m : Nat, mLog S i m o k = S o k
  | 0 => rfl
  | m + 1 => (mnotes_fr o k h1 h2).trans (lo_fr h1 h2 m)
theorem abs_fr {i x : Int} {o : Nat} (ho : o = 221 ∨ o = 222 ∨ o = 225) (hx : x ≠ i) : mAborts S i o x = S o x := by
  have a : (mnotes (mAb i (S 100 44).toNat S 0).1 3 i (-2147483648) (-2147483648)) o x = S o x := (mnotes_fr o x (by omega) (Or.inl (by omega))).trans (ab_fr (by omega) (by omega) _ _ _)
  unfold mAborts mends
  rw [up2_o _ _ _ _ (by omega), up2_k _ _ _ _ hx, up2_k _ _ _ _ hx]
  exact a
/-- a try changes of the others nothing of what they are -/
theorem try_oth {i x : Int} {o : Nat} (ho : o = 221 ∨ o = 222 ∨ o = 225) (hx : x ≠ i) : up2 (mTriesI S i) 222 i (mTriesV S i) o x = S o x := by
  rw [up2_k _ _ _ _ hx]
  have fW : mWantI (up2 S 100 41 0) i o x = S o x := want_fr o x (by omega) (by omega) (Or.inl (by omega))
  by_cases hQ : mWantQ (up2 S 100 41 0) i
  · rw [(mTries_1 (by rw [bI1 hQ]; decide)).1]
    by_cases c1 : mOth (mWantI (up2 S 100 41 0) i) i (mWantI (up2 S 100 41 0) i 100 41).toNat = -1
    · by_cases c2 : mLate (mWantI (up2 S 100 41 0) i) i
      · rw [(mTry_late c1 c2).1, abs_fr ho hx]; exact fW
      · rw [(mTry_done c1 c2).1]
        unfold mDoes
        rw [mDoesS_fr o x (by omega) (by omega), lo_fr (by omega) (by omega)]; exact fW
    · by_cases c2 : mCh (mWantI (up2 S 100 41 0) i) i 60 (mOth (mWantI (up2 S 100 41 0) i) i (mWantI (up2 S 100 41 0) i 100 41).toNat) = i
      · rw [(mTry_vict c1 c2).1, abs_fr ho hx]; exact fW
      · rw [(mTry_wait c1 c2).1, up2_k _ _ _ _ hx, up2_k _ _ _ _ hx]; exact fW
  · rw [(mTries_0 (bI0 hQ)).1]; exact fW
theorem try_100 {i y v : Int} (hy : y ≠ 41 ∧ y ≠ 44) : up2 (mTriesI S i) 222 i v 100 y = S 100 y := by
  rw [up2_o _ _ _ _ (by decide)]
  have fW : mWantI (up2 S 100 41 0) i 100 y = S 100 y := want_fr 100 y (by omega) (by omega) (Or.inr hy.1)
  have ab : mAborts (mWantI (up2 S 100 41 0) i) i 100 y = S 100 y := by
    unfold mAborts
    rw [mends_o 100 y (by decide) (by decide) (by decide), mnotes_fr 100 y (Or.inl (by decide)) (Or.inr hy.2), ab_fr (Or.inl (by decide)) (Or.inr hy.2)]
    exact fW
  by_cases hQ : mWantQ (up2 S 100 41 0) i
  · rw [(mTries_1 (by rw [bI1 hQ]; decide)).1]
    by_cases c1 : mOth (mWantI (up2 S 100 41 0) i) i (mWantI (up2 S 100 41 0) i 100 41).toNat = -1
    · by_cases c2 : mLate (mWantI (up2 S 100 41 0) i) i
      · rw [(mTry_late c1 c2).1]; exact ab
      · rw [(mTry_done c1 c2).1]
        unfold mDoes
        rw [mDoesS_fr 100 y (by decide) (by decide), lo_fr (Or.inl (by decide)) (Or.inr hy.2)]; exact fW
    · by_cases c2 : mCh (mWantI (up2 S 100 41 0) i) i 60 (mOth (mWantI (up2 S 100 41 0) i) i (mWantI (up2 S 100 41 0) i 100 41).toNat) = i
      · rw [(mTry_vict c1 c2).1]; exact ab
      · rw [(mTry_wait c1 c2).1, up2_o _ _ _ _ (by decide), up2_o _ _ _ _ (by decide)]; exact fW
  · rw [(mTries_0 (bI0 hQ)).1]; exact fW
theorem next_spec (h : mNext S ≠ -1) : mFreed S (mNext S) := by
  unfold mNext at *
  rcases fs_spec (mFreed S) (S 100 19).toNat 0 with ⟨e, -⟩ | ⟨-, -, e, -⟩
  · exact absurd e h
  · exact e
theorem next_none (h : ∀ j : Int, 0 ≤ j → j < S 100 19 → ¬ mFreed S j) : mNext S = -1 := by
  unfold mNext
  rcases fs_spec (mFreed S) (S 100 19).toNat 0 with ⟨e, -⟩ | ⟨a, b, e, -⟩
  · exact e
  · exact absurd e (h _ (by omega) (by omega))
theorem none_next (h : mNext S = -1) : ∀ j : Int, 0 ≤ j → j < S 100 19 → ¬ mFreed S j := fun j j0 j1 => by
  unfold mNext at h
  rcases fs_spec (mFreed S) (S 100 19).toNat 0 with ⟨-, e⟩ | ⟨a, -⟩
  · exact e j j0 (by omega)
  · omega
theorem settle_next : ∀ (m : Nat) (S : IT), SetOK m S → mNext (mSettle m S) = -1
  | 0, _, h => h.2
  | m + 1, S, h => by
    by_cases y : mNext S = -1
    · rw [mSettle_end y]; exact y
    · rw [mSettle_go y]
      exact settle_next m _ (h.2 y).2
/-- one that has ended isn't tried again -/
theorem settle_out {i : Int} : ∀ (m : Nat) (S : IT), S 221 i = 3 → mSettle m S 222 i = S 222 i
  | 0, _, _ => rfl
  | m + 1, S, h => by
    by_cases y : mNext S = -1
    · rw [mSettle_end y]
    · rw [mSettle_go y]
      have f := (next_spec y).1
      have ne : i ≠ mNext S := fun z => by rw [← z, h] at f; exact absurd f (by decide)
      have g1 : mGo S (mNext S) 221 i = S 221 i := by
        unfold mGo
        rw [up2_o _ _ _ _ (by decide), up2_k _ _ _ _ ne]
      have g2 : mGo S (mNext S) 222 i = S 222 i := by
        unfold mGo
        rw [up2_o _ _ _ _ (by decide), up2_o _ _ _ _ (by decide)]
      have e1 : mStep S (mNext S) 221 i = 3 := by
        unfold mStep
        rw [try_oth (Or.inl rfl) ne, g1]; exact h
      have e2 : mStep S (mNext S) 222 i = S 222 i := by
        unfold mStep
        rw [try_oth (Or.inr (Or.inl rfl)) ne, g2]
      rw [settle_out m _ e1, e2]
/-- what a write tells is what its own try told -/
theorem settle_told {i m : Nat} (hn : mNext X = -1) (h0 : X 221 i = 0) (h44 : X 100 44 = N) : mSettle m (mTry1 X i) 222 i = mTriesV X i := by
  have e22 : mTry1 X i 222 i = mTriesV X i := by unfold mTry1; rw [up2_eq]
  obtain ⟨f, d⟩ := try_cls (S := X) (i := i) h44
  have no := none_next hn
  have h19 : mTry1 X i 100 19 = X 100 19 := by
    unfold mTry1
    exact try_100 ⟨by decide, by decide⟩
  by_cases d3 : mTry1 X i 221 i = 3
  · rw [settle_out m _ d3, e22]
  · have nx : mNext (mTry1 X i) = -1 := next_none (fun j j0 j1 hf => by
      rw [h19] at j1
      rcases d.resolve_left d3 with ⟨a, b⟩ | ⟨a, b, b2⟩
      · have a21 : ∀ y : Int, mTry1 X i 221 y = X 221 y := fun y => by
          by_cases e : y = (i : Int)
          · rw [e, a]
          · exact f 221 (Or.inl rfl) y e
        have a25 : ∀ y : Int, mTry1 X i 225 y = X 225 y := fun y => by
          by_cases e : y = (i : Int)
          · rw [e, b]
          · exact f 225 (Or.inr rfl) y e
        refine no j j0 j1 ⟨by rw [← a21]; exact hf.1, ?_⟩
        have := hf.2
        rw [a25, a21] at this
        exact this
      · obtain ⟨g1, g2⟩ := hf
        by_cases e : j = (i : Int)
        · rw [e] at g2
          rw [f 221 (Or.inl rfl) _ b] at g2
          omega
        · rw [f 221 (Or.inl rfl) j e] at g1
          rw [f 225 (Or.inr rfl) j e] at g2
          by_cases e2 : X 225 j = (i : Int)
          · rw [e2, a] at g2; omega
          · rw [f 221 (Or.inl rfl) _ e2] at g2
            exact no j j0 j1 ⟨g1, g2⟩)
    rw [mSettle_end nx, e22]
/-- what the engine's calls leave of the rest -/
def sEg (o : Nat) (y : Int) : Prop := (214 ≤ o ∧ o ≤ 236) ∨ (239 ≤ o ∧ o ≤ 249) ∨ (o = 100 ∧ (y = 16 ∨ y = 19 ∨ y = 37 ∨ y = 41 ∨ y = 44 ∨ y = 45 ∨ y = 93))
def nEg (o : Nat) : Prop := o < 999 ∨ (1000 ≤ o ∧ o < 1224) ∨ o = 1448 ∨ (2000 ≤ o ∧ o < 10000) ∨ (12000 ≤ o ∧ o < 12120)
theorem eng_rest {U U' : IT} (qy : QyR K P I S nq lqq tn) (vw : VwI K P I S nq nv l3 l4) (ev : EvI2 K P I S w M) (pn : PnI c I S U nq) (hs : SSch S ∧ SSch S') (e : ∀ o, ¬ nEg o → K' o = K o ∧ P' o = P o ∧ I' o = I o) (e10 : P' 1000 10 = P 1000 10) (hS : ∀ o y, ¬ sEg o y → S' o y = S o y) (h4 : St4 S S') (eU : U' 287 = U 287) : QyR K' P' I' S' nq lqq tn ∧ VwI K' P' I' S' nq nv l3 l4 ∧ EvI2 K' P' I' S' w M ∧ PnI (c + 1) I' S' U' nq := by
  have fu : ∀ o, ¬ (214 ≤ o ∧ o ≤ 236) → ¬ (239 ≤ o ∧ o ≤ 249) → o ≠ 100 → S' o = S o := fun o a b d => funext (fun y => hS o y (by unfold sEg; omega))
  have f1 : ∀ y, ¬ (y = 16 ∨ y = 19 ∨ y = 37 ∨ y = 41 ∨ y = 44 ∨ y = 45 ∨ y = 93) → S' 100 y = S 100 y := fun y hy => hS 100 y (by unfold sEg; omega)
  have eq : ∀ o, nQv o → K' o = K o ∧ P' o = P o ∧ I' o = I o := fun o ho => e o (by unfold nEg nQv at *; omega)
  refine ⟨qy.frm eq e10 (fun o o0 o1 => fu o (by omega) (by omega) (by omega)) (fun t _ _ => by rw [fu 201 (by omega) (by omega) (by omega)]) (by rw [f1 0 (by omega)]; exact Int.le_refl _) (fun y hy => f1 y (by omega)), vw.frm qy.1.1 qy.2.1 ⟨hs, h4, fun o o0 o1 => fu o (by omega) (by omega) (by omega), fu 269 (by omega) (by omega) (by omega), f1 68 (by omega), fun t _ _ => by rw [fu 201 (by omega) (by omega) (by omega)], fun t ρ => rowSeen_of (f1 8 (by omega)) (fun o o0 o1 => fu o (by omega) (by omega) (by omega))⟩ eq, ev.frm (fun o ho => ?_) ⟨(e 1416 (by unfold nEg; omega)).2.2, (e 1417 (by unfold nEg; omega)).2.2⟩ ⟨fu 276 (by omega) (by omega) (by omega), f1 77 (by omega), f1 78 (by omega)⟩, pn.frm qy.1.1.2.1 (fun o ho => (e o (by unfold nEg; omega)).2.2) (fun o ho => fu o (by omega) (by omega) (by omega)) (f1 67 (by omega)) eU⟩
  have := e o (by unfold nEg nEv at *; omega)
  exact ⟨this.1, this.2.1⟩
end
