/-! a try, counted -/
section
variable {I S : IT} {k n N g i l : Nat} {q : Int} {lv mv : Nat → Nat}
theorem ZA.try1 (h : ZA k i S) (hE : ER I S n N g lv mv q) (hT : TriH I S i l (S 223 i)) (hi : i < n) (o0 : S 221 i = 0) : ZA k (-1) (mTry1 S i) := by
  obtain ⟨hd, en⟩ := hE.wrd
  have fW := wantFr (S := S) (i := i)
  have fWu : ∀ o, (o < 233 ∨ 243 < o) → o ≠ 100 → mWantI (up2 S 100 41 0) i o = S o := fun o a b => funext (fun y => fW o y a (Or.inl b))
  have w44 : mWantI (up2 S 100 41 0) i 100 44 = N := (fW 100 44 (by decide) (Or.inr (by decide))).trans hE.cnt.2.1
  have w19 : mWantI (up2 S 100 41 0) i 100 19 = S 100 19 := fW 100 19 (by decide) (Or.inr (by decide))
  have ewk : ∀ j, WrK (mWantI (up2 S 100 41 0) i) j = WrK S j := fun j => funext (fun x => by
    unfold WrK wrR
    rw [fWu 246 (by decide) (by decide), fWu 247 (by decide) (by decide), fWu 248 (by decide) (by decide), fWu 249 (by decide) (by decide), w44, hE.cnt.2.1])
  have nW : nS (mWantI (up2 S 100 41 0) i) = nS S := by unfold nS; rw [w19]
  have oW : ∀ j, opA (mWantI (up2 S 100 41 0) i) j ↔ opA S j := fun j => by
    unfold opA
    rw [fWu 221 (by decide) (by decide)]
  have zW : ZA k i (mWantI (up2 S 100 41 0) i) := h.keep (fun o ho => fWu o (by omega) (by omega)) w19 (fW 100 44 (by decide) (Or.inr (by decide))) (Int.le_of_eq (fW 100 37 (by decide) (Or.inr (by decide)))) (fun j _ => oW j) (fun j _ wj => by
    unfold wtA at *
    rw [fWu 221 (by decide) (by decide)] at wj
    exact wj)
  have dW : WrD (mWantI (up2 S 100 41 0) i) := fun j m x hj hm oj om a b => by
    rw [ewk] at a b
    rw [nW] at hj hm
    exact hd j m x hj hm ((oW j).mp oj) ((oW m).mp om) a b
  have undo : ∀ v, ZA k (-1) (up2 (mAborts (mWantI (up2 S 100 41 0) i) i) 222 i v) := fun v => by
    obtain ⟨T, hX, eA, -⟩ := mAborts_X (S := mWantI (up2 S 100 41 0) i) (i := (i : Int)) w44
    rw [eA]
    refine zW.undone dW (by rw [nW, en]; exact hi) ((oW i).mpr (by unfold opA; rw [o0]; decide)) w44 hX (fun o y a b c d => (up2_o _ _ _ _ b).trans (mends_o o y a c d)) (fun j => ?_)
    rw [up2_o _ _ _ _ (by decide)]
    unfold mends
    rw [up2_o _ _ _ _ (by decide), up2_o _ _ _ _ (by decide)]
    by_cases e : j = (i : Int)
    · rw [if_pos e, e, up2_eq]
    · rw [if_neg e, up2_k _ _ _ _ e]
      exact hX.1 221 j (by omega) (Or.inl (by decide))
  unfold mTry1
  by_cases hQ : mWantQ (up2 S 100 41 0) i
  · have b1 : bI (mWantQ (up2 S 100 41 0) i) ≠ 0 := by rw [bI1 hQ]; decide
    rw [(mTries_1 b1).1]
    generalize mTriesV S i = v
    by_cases c1 : mOth (mWantI (up2 S 100 41 0) i) i (mWantI (up2 S 100 41 0) i 100 41).toNat = -1
    · by_cases c2 : mLate (mWantI (up2 S 100 41 0) i) i
      · rw [(mTry_late c1 c2).1]; exact undo v
      · rw [(mTry_done c1 c2).1]
        have z := h.carried hE hT hi o0 hQ
        exact z.keep (fun o ho => funext (fun y => up2_o _ _ _ _ (by omega))) (up2_o _ _ _ _ (by decide)) (up2_o _ _ _ _ (by decide)) (Int.le_of_eq (up2_o _ _ _ _ (by decide))) (fun j _ => by unfold opA; rw [up2_o _ _ _ _ (by decide)]) (fun j _ wj => by
          unfold wtA at *
          rw [up2_o _ _ _ _ (by decide)] at wj
          exact wj)
    · by_cases c2 : mCh (mWantI (up2 S 100 41 0) i) i 60 (mOth (mWantI (up2 S 100 41 0) i) i (mWantI (up2 S 100 41 0) i 100 41).toNat) = i
      · rw [(mTry_vict c1 c2).1]; exact undo v
      · rw [(mTry_wait c1 c2).1]
        generalize mOth (mWantI (up2 S 100 41 0) i) i (mWantI (up2 S 100 41 0) i 100 41).toNat = x
        refine h.want (fun o y a b c => ?_) (fun j => ?_)
        · rw [up2_o _ _ _ _ (by omega), up2_o _ _ _ _ (by omega), up2_o _ _ _ _ (by omega)]
          exact fW o y (by omega) b
        · rw [up2_o _ _ _ _ (by decide), up2_o _ _ _ _ (by decide)]
          by_cases e : j = (i : Int)
          · rw [e, up2_eq]
            exact Or.inr ⟨rfl, o0, rfl⟩
          · rw [up2_k _ _ _ _ e]
            exact Or.inl (fW 221 j (by decide) (Or.inl (by decide)))
  · rw [(mTries_0 (bI0 hQ)).1]
    refine h.want (fun o y a b c => (up2_o _ _ _ _ (by omega)).trans (fW o y (by omega) b)) (fun j => Or.inl ((up2_o _ _ _ _ (by decide)).trans (fW 221 j (by decide) (Or.inl (by decide)))))
end
