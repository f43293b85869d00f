/-! a try, counted: carried out -/
section
variable {I S S' : IT} {k n N g i l : Nat} {q : Int} {lv mv : Nat → Nat}
theorem wrM_in {i : Int} {x : Int × Int} {L : List (Int × Int)} : ((0 : Int), i, x.1, x.2) ∈ wrM i L ↔ x ∈ L := by
  unfold wrM
  rw [List.mem_map]
  constructor
  · rintro ⟨y, hy, e⟩
    have e3 := (Prod.mk.inj (Prod.mk.inj (Prod.mk.inj e).2).2)
    have : y = x := Prod.ext e3.1 e3.2
    rw [← this]; exact hy
  · intro hx
    exact ⟨x, hx, rfl⟩
theorem wrM_not {i j : Int} (h : i ≠ j) {x : Int × Int} {L : List (Int × Int)} : ((0 : Int), j, x.1, x.2) ∉ wrM i L := by
  unfold wrM
  rw [List.mem_map]
  rintro ⟨y, hy, e⟩
  exact h (Prod.mk.inj (Prod.mk.inj e).2).1
theorem ZA.carried (h : ZA k i S) (hE : ER I S n N g lv mv q) (hT : TriH I S i l (S 223 i)) (hi : i < n) (o0 : S 221 i = 0) (hQ : mWantQ (up2 S 100 41 0) i) : ZA k (-1) (mDoes (mWantI (up2 S 100 41 0) i) i) := by
  have en := hE.wrd.2
  have fW := wantFr (S := S) (i := i)
  have fWu : ∀ o, (o < 233 ∨ 243 < o) → o ≠ 100 → mWantI (up2 S 100 41 0) i o = S o := fun o a b => funext (fun y => fW o y a (Or.inl b))
  have w44 : mWantI (up2 S 100 41 0) i 100 44 = N := (fW 100 44 (by decide) (Or.inr (by decide))).trans hE.cnt.2.1
  have s44 : S 100 44 = N := hE.cnt.2.1
  have hm := hT.2.2.1.1
  have t6 := (hT.A).1.t6
  have w4 := hT.1.2.2.1 (S 228 i) hT.2.2.2.2.1.2.1.1 hT.2.2.2.2.1.2.1.2
  have hq4 := hE.mb.pla i
  obtain ⟨n', hn⟩ : ∃ n' : Nat, mWantI (up2 S 100 41 0) i 100 41 = n' := by
    obtain ⟨n', a, -⟩ := wr_all hT hQ (W2 := mWantI (up2 S 100 41 0) i) (fun _ _ _ _ => rfl)
    exact ⟨n', a⟩
  have eD : mDoes (mWantI (up2 S 100 41 0) i) i = mDoesS (mLog (mWantI (up2 S 100 41 0) i) i n') i (S 223 i) (S 228 i) := by
    unfold mDoes
    rw [hn, Int.toNat_natCast, fWu 223 (by decide) (by decide), fWu 228 (by decide) (by decide)]
  rw [eD]
  have hX := mLog_X (S := mWantI (up2 S 100 41 0) i) (i := (i : Int)) w44 n'
  have hF := wr_all hT hQ (W2 := mLog (mWantI (up2 S 100 41 0) i) i n') hX.1
  have fD : ∀ o y, o ≠ 214 → o ≠ 215 → mDoesS (mLog (mWantI (up2 S 100 41 0) i) i n') i (S 223 i) (S 228 i) o y = mLog (mWantI (up2 S 100 41 0) i) i n' o y := fun o y a b => mDoesS_fr o y a b
  generalize mLog (mWantI (up2 S 100 41 0) i) i n' = T at *
  generalize mDoesS T i (S 223 i) (S 228 i) = S2 at *
  have fS : ∀ o y, o ≠ 214 → o ≠ 215 → (o < 233 ∨ 249 < o) → (o ≠ 100 ∨ (y ≠ 44 ∧ y ≠ 41)) → S2 o y = S o y := fun o y a b c e => (fD o y a b).trans ((hX.1 o y (by omega) (by omega)).trans (fW o y (by omega) (by omega)))
  have len : (wrM (i : Int) (wtL (mWantI (up2 S 100 41 0) i) n')).length = n' := by
    unfold wrM wtL
    rw [List.length_map, List.length_map, List.length_range]
  have ewk : ∀ j, WrK (mWantI (up2 S 100 41 0) i) j = WrK S j := fun j => funext (fun x => by
    unfold WrK wrR
    rw [fWu 246 (by decide) (by decide), fWu 247 (by decide) (by decide), fWu 248 (by decide) (by decide), fWu 249 (by decide) (by decide), w44, s44])
  have ewn : ∀ j, wN (mWantI (up2 S 100 41 0) i) j = wN S j := fun j => by
    unfold wN
    rw [w44, s44]
    exact un_same _ (fun r _ => by rw [fWu 246 (by decide) (by decide), fWu 247 (by decide) (by decide)]; exact ⟨rfl, rfl⟩)
  have gk : ∀ j x, WrK S2 j x ↔ WrK T j x := fun j x => by
    unfold WrK wrR
    rw [fD 100 44 (by decide) (by decide), funext (fun y => fD 246 y (by decide) (by decide)), funext (fun y => fD 247 y (by decide) (by decide)), funext (fun y => fD 248 y (by decide) (by decide)), funext (fun y => fD 249 y (by decide) (by decide))]
  have gn : ∀ j, wN S2 j = wN T j := fun j => by
    unfold wN
    rw [fD 100 44 (by decide) (by decide)]
    exact un_same _ (fun r _ => ⟨fD 246 _ (by decide) (by decide), fD 247 _ (by decide) (by decide)⟩)
  have k1 : ∀ j x, WrK S2 j x ↔ WrK S j x ∨ ((0 : Int), (j : Int), x.1, x.2) ∈ wrM (i : Int) (wtL (mWantI (up2 S 100 41 0) i) n') := fun j x => by
    rw [gk, WrK_X w44 hX, ewk]
  have n1 : ∀ j, wN S2 j = wN S j + ((wrM (i : Int) (wtL (mWantI (up2 S 100 41 0) i) n')).filter (rq j)).length := fun j => by
    rw [gn, wN_X w44 hX, ewn]
  have e44 : (S2 100 44).toNat = (S 100 44).toNat + n' := by
    rw [fD 100 44 (by decide) (by decide), hX.2.1, len, s44]
    omega
  have hsl : SlF S S2 (S 223 i) := hF.choose_spec.2.2.2.2.2.2.2.2.2.2
  have f21 : ∀ j : Int, S2 221 j = S 221 j := fun j => fS 221 j (by decide) (by decide) (by decide) (Or.inl (by decide))
  have f27 : S2 227 = S 227 := funext (fun y => fS 227 y (by decide) (by decide) (by decide) (Or.inl (by decide)))
  have f28 : S2 228 = S 228 := funext (fun y => fS 228 y (by decide) (by decide) (by decide) (Or.inl (by decide)))
  have f01 : S2 201 = S 201 := funext (fun y => fS 201 y (by decide) (by decide) (by decide) (Or.inl (by decide)))
  have f23 : ∀ j : Int, S2 223 j = S 223 j := fun j => fS 223 j (by decide) (by decide) (by decide) (Or.inl (by decide))
  have o4 := hsl.oth (q := 4) (by omega) hE.st.2.1
  refine h.write (n := n') (by rw [en]; exact hi) (by unfold opA; rw [o0]; decide) hF hm hn t6 w4 f01 (fS 100 19 (by decide) (by decide) (by decide) (Or.inr (by decide))) (Int.le_of_eq (fS 100 37 (by decide) (by decide) (by decide) (Or.inr (by decide)))) e44 (f23 i) (fun x => ?_) ?_ (fun j _ => by unfold opA; rw [f21]) (fun j _ wj => ?_) (fun t ρ t0 t1 hρ => (o4.1 t ρ t0 t1).mp hρ) (fun j hj oj hne => ?_)
  · rw [k1, wrM_in]
  · rw [n1, wrM_own]
    unfold wtL
    rw [List.length_map, List.length_range]
  · rcases wj with z | z
    · rw [f21] at z
      exact ⟨⟨Or.inl z, fun e => by rw [e] at z; omega⟩, by unfold rsv; rw [f27, f28, f01]⟩
    · omega
  · rw [en] at hj
    have ne : S 223 j ≠ S 223 i := fun e => hne (hE.sl.1 j i ⟨hj, oj⟩ ⟨hi, by rw [o0]; decide⟩ e)
    have own := (hE.own j ⟨hj, oj⟩).2.1
    have oj2 := hsl.oth ne own
    have nij : (i : Int) ≠ (j : Int) := by omega
    have wn0 : wN S2 j = wN S j := by rw [n1, wrM_oth nij]; rfl
    refine ⟨fun t ρ t0 t1 hρ => by rw [f23] at hρ; exact (oj2.1 t ρ t0 t1).mp hρ, fun x => ?_, Nat.le_of_eq wn0, Nat.le_of_eq wn0.symm, fun x x0 x1 => ?_⟩
    · rw [k1]
      exact ⟨fun z => z.elim id (fun z => absurd z (wrM_not nij)), Or.inl⟩
    · rw [f23]
      exact cw_same own oj2.2 ⟨x0, x1⟩ (fun ρ _ => oj2.1 x.1 ρ x0 x1)
end
