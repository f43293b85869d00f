section
variable {K : KT} {P : PT} {J I : IT}
/-- rows for which p holds, each once, behind those that are there -/
noncomputable def onceS (p : List Int → Prop) (acc : List (List Int)) (x : List Int) : List (List Int) := if bI (p x ∧ x ∉ acc) = 1 then acc ++ [x] else acc
theorem onceS_1 {p : List Int → Prop} {acc : List (List Int)} {x : List Int} (h : p x) (h2 : x ∉ acc) : onceS p acc x = acc ++ [x] := if_pos (bI1 ⟨h, h2⟩)
theorem onceS_0 {p : List Int → Prop} {acc : List (List Int)} {x : List Int} (h : ¬ (p x ∧ x ∉ acc)) : onceS p acc x = acc := if_neg (by rw [bI0 h]; decide)
noncomputable def onceL (p : List Int → Prop) (acc L : List (List Int)) : List (List Int) := L.foldl (onceS p) acc
theorem onceL_snoc {p : List Int → Prop} {acc L : List (List Int)} {x : List Int} : onceL p acc (L ++ [x]) = onceS p (onceL p acc L) x := by
  unfold onceL
  rw [List.foldl_append]; rfl
theorem onceL_len {p : List Int → Prop} : ∀ (L acc : List (List Int)), (onceL p acc L).length ≤ acc.length + L.length := by
  intro L
  induction L with
  | nil => intro acc; exact Nat.le_refl _
  | cons x xs ih =>
    intro acc
    have a : (onceL p (onceS p acc x) xs).length ≤ (onceS p acc x).length + xs.length := ih _
    have b : (onceS p acc x).length ≤ acc.length + 1 := by
      unfold onceS
      split
      · rw [List.length_append]; exact Nat.le_refl _
      · omega
    show (onceL p (onceS p acc x) xs).length ≤ acc.length + (xs.length + 1)
    omega
def cmbP (how : Int) (R : List (List Int)) (x : List Int) : Prop := how = 0 ∨ (how = 1 ∧ x ∈ R) ∨ (how ≠ 0 ∧ how ≠ 1 ∧ x ∉ R)
noncomputable def cmbL (how : Int) (L R : List (List Int)) : List (List Int) := if how = 0 then onceL (fun _ => True) (onceL (cmbP how R) [] L) R else onceL (cmbP how R) [] L
theorem cb_last {x r a b m : Int} {w n1 n2 : Nat} (hM : MW K P) (hx : 0 ≤ x ∧ x < 252) (hr : I 100 71 = r + 2) (h0 : 0 ≤ r ∧ r < 10) (hw2 : I 274 (r + 1) = w) (hn1 : I 273 r = n1) (hn2 : I 273 (r + 1) = n2) (ha : I 272 r = a) (hb : I 272 (r + 1) = b) (hp : 0 ≤ a ∧ b = a + (w : Int) * (n1 : Int) ∧ b + (w : Int) * (n2 : Int) ≤ 600000) (hW : w ≤ 10) (hN : n1 ≤ 512 ∧ n2 ≤ 512) (hJ : (cmbL (I 257 x) (seg I 270 a w n1) (seg I 270 b w n2)).length ≤ 1000) (hm : m = b + (w : Int) * (n2 : Int)) : ∀ (g : Nat) (j : Int) (T : IT), MJ I T m w g (cmbL (I 257 x) (seg I 270 a w n1) (seg I 270 b w n2)) → VW m_Model_combines false (rmv 1 27) (exU K P J (.inl none) (fun I' => (I' 100 71 = r + 1 ∧ I' 273 r = (cmbL (I 257 x) (seg I 270 a w n1) (seg I 270 b w n2)).length ∧ I' 274 r = w ∧ seg I' 270 a w (cmbL (I 257 x) (seg I 270 a w n1) (seg I 270 b w n2)).length = (cmbL (I 257 x) (seg I 270 a w n1) (seg I 270 b w n2))) ∧ ∀ (o : Nat) (q : Int), ¬ (o = 270 ∧ a ≤ q) → ¬ (o = 273 ∧ q = r) → ¬ (o = 274 ∧ q = r) → ¬ (o = 100 ∧ q = 71) → I' o q = I o q)) K P J T 0 0 273 [(0, vR (some 100)), (1, vI x), (2, vI (I 257 x)), (3, vI a), (4, vI b), (5, vI (w : Int)), (6, vI m), (7, vI (g : Int)), (8, vI j)] [] := by
  have q1 : (w : Int) * (n1 : Int) ≤ 10 * 512 := mulUp (by omega) (by omega) (by omega) (by omega)
  have q2 : (w : Int) * (n2 : Int) ≤ 10 * 512 := mulUp (by omega) (by omega) (by omega) (by omega)
  have q10 := mulNN (w := (w : Int)) (k := (n1 : Int)) (by omega) (by omega)
  have q20 := mulNN (w := (w : Int)) (k := (n2 : Int)) (by omega) (by omega)
  have gW : ∀ g : Nat, g ≤ 2000 → 0 ≤ (w : Int) * (g : Int) ∧ (w : Int) * (g : Int) ≤ 20000 := fun g hg => by
    have := mulUp (w := (w : Int)) (k := (g : Int)) (W := 10) (n := 2000) (by omega) (by omega) (by omega) (by omega)
    exact ⟨mulNN (by omega) (by omega), by omega⟩
  intro g j T hT
  have gl := hT.len
  have fr := hT.2
  have g71 : T 100 71 = r + 2 := (fr 100 71 (by omega)).trans hr
  have g272 : T 272 (r + 2 - 2) = a := by rw [show r + 2 - 2 = r by omega, fr 272 r (by omega)]; exact ha
  have fin : (mTakes T m g w 2 100 71 = r + 1 ∧ mTakes T m g w 2 273 r = (cmbL (I 257 x) (seg I 270 a w n1) (seg I 270 b w n2)).length ∧ mTakes T m g w 2 274 r = w ∧ seg (mTakes T m g w 2) 270 a w (cmbL (I 257 x) (seg I 270 a w n1) (seg I 270 b w n2)).length = (cmbL (I 257 x) (seg I 270 a w n1) (seg I 270 b w n2))) ∧ ∀ (o : Nat) (q : Int), ¬ (o = 270 ∧ a ≤ q) → ¬ (o = 273 ∧ q = r) → ¬ (o = 274 ∧ q = r) → ¬ (o = 100 ∧ q = 71) → mTakes T m g w 2 o q = I o q := by
    rw [← hT.1, seg_len]
    unfold mTakes
    rw [g71, g272, show r + 2 - (2 - 1) - 1 = r by omega]
    refine ⟨⟨?_, ?_, up2_eq _ _ _ _, ?_⟩, fun o q h1 h2 h3 h4 => ?_⟩
    · rw [up2_o _ _ _ _ (by decide), up2_o _ _ _ _ (by decide), up2_eq]; omega
    · rw [up2_o _ _ _ _ (by decide), up2_eq]
    · refine seg_congr (fun q a1 c => ?_)
      rw [up2_o _ _ _ _ (by decide), up2_o _ _ _ _ (by decide), up2_o _ _ _ _ (by decide), cpyI_in (by omega) (by rw [Int.mul_comm] at c; omega)]
      congr 1; omega
    · rw [show ∀ (X : IT) v, up2 X 274 r v o q = X o q from fun X v => if_neg h3, show ∀ (X : IT) v, up2 X 273 r v o q = X o q from fun X v => if_neg h2, show ∀ (X : IT) v, up2 X 100 71 v o q = X o q from fun X v => if_neg h4, cpyI_out (by omega)]
      exact fr o q (by omega)
  have tk := sp_Model_takes (K := K) (P := P) (J := J) (I := T) (m := m) (n := g) (w := w) (d := 2) hM (by omega) (by omega) (by rw [g71, g272]; omega) (by omega) (by omega) (by omega)
  clear hT fr gW hJ
  refine VW.aload_n (pc' := 274) d_Model_combines_273 rfl rfl ?_
  refine VW.iload (pc' := 276) d_Model_combines_274 rfl rfl ?_
  refine VW.iload (pc' := 278) d_Model_combines_276 rfl rfl ?_
  refine VW.iload (pc' := 280) d_Model_combines_278 rfl rfl ?_
  refine VW.iconst (pc' := 281) d_Model_combines_280 rfl (by decide) ?_
  refine VW.cV (ci := 11) (T := T11) (N := 94) (pc' := 284) d_Model_combines_281 rfl mv_Model_takes lk_Model_450 rfl (hM.k rfl) rfl rfl rfl (Nat.le_refl _) (Nat.le_refl _) (tk) rfl rfl ?_
  exact VW.vret d_Model_combines_284 rfl (Nat.zero_le _) (Nat.zero_le _) (exU_mk fin)
theorem cb_right {x r a b m : Int} {w n1 n2 : Nat} (hM : MW K P) (hx : 0 ≤ x ∧ x < 252) (hr : I 100 71 = r + 2) (h0 : 0 ≤ r ∧ r < 10) (hw2 : I 274 (r + 1) = w) (hn1 : I 273 r = n1) (hn2 : I 273 (r + 1) = n2) (ha : I 272 r = a) (hb : I 272 (r + 1) = b) (hp : 0 ≤ a ∧ b = a + (w : Int) * (n1 : Int) ∧ b + (w : Int) * (n2 : Int) ≤ 600000) (hW : w ≤ 10) (hN : n1 ≤ 512 ∧ n2 ≤ 512) (hJ : (cmbL (I 257 x) (seg I 270 a w n1) (seg I 270 b w n2)).length ≤ 1000) (hm : m = b + (w : Int) * (n2 : Int)) : ∀ (l j g : Nat) (T : IT), j + l = n2 → I 257 x = 0 → MJ I T m w g (onceL (fun _ => True) (onceL (cmbP (I 257 x) (seg I 270 b w n2)) [] (seg I 270 a w n1)) (seg I 270 b w j)) → g ≤ 512 + j → VW m_Model_combines false (rmv 1 27) (exU K P J (.inl none) (fun I' => (I' 100 71 = r + 1 ∧ I' 273 r = (cmbL (I 257 x) (seg I 270 a w n1) (seg I 270 b w n2)).length ∧ I' 274 r = w ∧ seg I' 270 a w (cmbL (I 257 x) (seg I 270 a w n1) (seg I 270 b w n2)).length = (cmbL (I 257 x) (seg I 270 a w n1) (seg I 270 b w n2))) ∧ ∀ (o : Nat) (q : Int), ¬ (o = 270 ∧ a ≤ q) → ¬ (o = 273 ∧ q = r) → ¬ (o = 274 ∧ q = r) → ¬ (o = 100 ∧ q = 71) → I' o q = I o q)) K P J T 0 0 199 [(0, vR (some 100)), (1, vI x), (2, vI (I 257 x)), (3, vI a), (4, vI b), (5, vI (w : Int)), (6, vI m), (7, vI (g : Int)), (8, vI (j : Int))] [] := by
  have q1 : (w : Int) * (n1 : Int) ≤ 10 * 512 := mulUp (by omega) (by omega) (by omega) (by omega)
  have q2 : (w : Int) * (n2 : Int) ≤ 10 * 512 := mulUp (by omega) (by omega) (by omega) (by omega)
  have q10 := mulNN (w := (w : Int)) (k := (n1 : Int)) (by omega) (by omega)
  have q20 := mulNN (w := (w : Int)) (k := (n2 : Int)) (by omega) (by omega)
  have gW : ∀ g : Nat, g ≤ 2000 → 0 ≤ (w : Int) * (g : Int) ∧ (w : Int) * (g : Int) ≤ 20000 := fun g hg => by
    have := mulUp (w := (w : Int)) (k := (g : Int)) (W := 10) (n := 2000) (by omega) (by omega) (by omega) (by omega)
    exact ⟨mulNN (by omega) (by omega), by omega⟩
  have last := cb_last (J := J) hM hx hr h0 hw2 hn1 hn2 ha hb hp hW hN hJ hm
  intro l
  induction l with
  | zero =>
    intro j g T hj h2 hT hg
    have ej : j = n2 := by omega
    rw [ej] at hT
    have lt := fun z => last g z T (by rw [show (cmbL (I 257 x) (seg I 270 a w n1) (seg I 270 b w n2)) = _ from if_pos h2]; exact hT)
    have g71 : T 100 71 = r + 2 := (hT.2 100 71 (by omega)).trans hr
    have g273 : T 273 (r + 2 - 1) = n2 := by rw [show r + 2 - 1 = r + 1 by omega, hT.2 273 (r + 1) (by omega)]; exact hn2
    clear last hT gW hJ
    refine VW.iload (pc' := 201) d_Model_combines_199 rfl rfl ?_
    refine VW.aload_n (pc' := 202) d_Model_combines_201 rfl rfl ?_
    refine VW.gP (ci := 11) (T := T11) (N := 94) (k := 73) (k' := 73) (pc' := 205) d_Model_combines_202 rfl lk_Model_184 in11 rfl rfl rfl rfl (hM.k rfl) (hM.p (r := some 273) 73 rfl rfl) ?_
    refine VW.aload_n (pc' := 206) d_Model_combines_205 rfl rfl ?_
    refine VW.gI (ci := 11) (T := T11) (N := 94) (k := 71) (k' := 71) (pc' := 209) d_Model_combines_206 rfl lk_Model_434 in11 rfl rfl rfl rfl (hM.k rfl) (by first | exact g71 | exact g273 | exact g273a | rfl) ?_
    refine VW.iconst (pc' := 210) d_Model_combines_209 rfl (by decide) ?_
    refine VW.isub (pc' := 211) d_Model_combines_210 rfl (by omega) ?_
    refine VW.ild (pc' := 212) d_Model_combines_211 rfl (hM.k rfl) (by omega) (by omega) (by first | exact g71 | exact g273 | exact g273a | rfl) ?_
    refine VW.icmp_ge (tgt := 273) (pc' := 215) d_Model_combines_212 rfl rfl (fun c212 => ?_) (fun c212 => ?_)
    · refine VW.pick [0, 1, 2, 3, 4, 5, 6, 7, 8] ?_
      exact lt _
    · exfalso; omega
  | succ l ih =>
    intro j g T hj h2 hT hg
    have g71 : T 100 71 = r + 2 := (hT.2 100 71 (by omega)).trans hr
    have g273 : T 273 (r + 2 - 1) = n2 := by rw [show r + 2 - 1 = r + 1 by omega, hT.2 273 (r + 1) (by omega)]; exact hn2
    have s1 := mulStep (w := (w : Int)) (k := (j : Int)) (n := (n2 : Int)) (by omega) (by omega)
    have s2 := mulNN (w := (w : Int)) (k := (j : Int)) (by omega) (by omega)
    have ej : ((j + 1 : Nat) : Int) = (j : Int) + 1 := by omega
    have eg : ((g + 1 : Nat) : Int) = (g : Int) + 1 := by omega
    have gw := gW g (by omega)
    have nY : (rowAt I 270 (b + (w : Int) * (j : Int)) w) ∉ (onceL (fun _ => True) (onceL (cmbP (I 257 x) (seg I 270 b w n2)) [] (seg I 270 a w n1)) (seg I 270 b w j)) → VW m_Model_combines false (rmv 1 27) (exU K P J (.inl none) (fun I' => (I' 100 71 = r + 1 ∧ I' 273 r = (cmbL (I 257 x) (seg I 270 a w n1) (seg I 270 b w n2)).length ∧ I' 274 r = w ∧ seg I' 270 a w (cmbL (I 257 x) (seg I 270 a w n1) (seg I 270 b w n2)).length = (cmbL (I 257 x) (seg I 270 a w n1) (seg I 270 b w n2))) ∧ ∀ (o : Nat) (q : Int), ¬ (o = 270 ∧ a ≤ q) → ¬ (o = 273 ∧ q = r) → ¬ (o = 274 ∧ q = r) → ¬ (o = 100 ∧ q = 71) → I' o q = I o q)) K P J (layB T (m + (w : Int) * (g : Int)) (b + (w : Int) * (j : Int)) w (-1) 0) 0 0 199 [(0, vR (some 100)), (1, vI x), (2, vI (I 257 x)), (3, vI a), (4, vI b), (5, vI (w : Int)), (6, vI m), (7, vI ((g : Int) + 1)), (8, vI ((j : Int) + 1))] [] := fun z => by
      have hA := hT.add (a := b + (w : Int) * (j : Int)) (b := -1) (va := w) (vb := 0) rfl (fun y => ⟨by omega, by omega⟩) (fun y => absurd rfl y)
      rw [part_nul, part_row (by omega), show (rowAt I 270 (b + (w : Int) * (j : Int)) w) ++ List.replicate 0 (-2147483648) = (rowAt I 270 (b + (w : Int) * (j : Int)) w) from List.append_nil _] at hA
      have := ih (j + 1) (g + 1) _ (by omega) h2 (by rw [seg_succ, onceL_snoc, onceS_1 trivial z]; exact hA) (by omega)
      rw [ej, eg] at this
      exact this
    have nN : (rowAt I 270 (b + (w : Int) * (j : Int)) w) ∈ (onceL (fun _ => True) (onceL (cmbP (I 257 x) (seg I 270 b w n2)) [] (seg I 270 a w n1)) (seg I 270 b w j)) → VW m_Model_combines false (rmv 1 27) (exU K P J (.inl none) (fun I' => (I' 100 71 = r + 1 ∧ I' 273 r = (cmbL (I 257 x) (seg I 270 a w n1) (seg I 270 b w n2)).length ∧ I' 274 r = w ∧ seg I' 270 a w (cmbL (I 257 x) (seg I 270 a w n1) (seg I 270 b w n2)).length = (cmbL (I 257 x) (seg I 270 a w n1) (seg I 270 b w n2))) ∧ ∀ (o : Nat) (q : Int), ¬ (o = 270 ∧ a ≤ q) → ¬ (o = 273 ∧ q = r) → ¬ (o = 274 ∧ q = r) → ¬ (o = 100 ∧ q = 71) → I' o q = I o q)) K P J T 0 0 199 [(0, vR (some 100)), (1, vI x), (2, vI (I 257 x)), (3, vI a), (4, vI b), (5, vI (w : Int)), (6, vI m), (7, vI (g : Int)), (8, vI ((j : Int) + 1))] [] := fun z => by
      have := ih (j + 1) g _ (by omega) h2 (by rw [seg_succ, onceL_snoc, onceS_0 (fun y => y.2 z)]; exact hT) (by omega)
      rw [ej] at this
      exact this
    have hasM : ∀ (p : Int), (0 ≤ p ∧ p + w ≤ m) → Sp m_Model_hasRow false (rmv 0 0) (ex K P J T (.inl (some (vI (bI (rowAt I 270 p w ∈ (onceL (fun _ => True) (onceL (cmbP (I 257 x) (seg I 270 b w n2)) [] (seg I 270 a w n1)) (seg I 270 b w j)))))))) K P J T [vR (some 100), vI m, vI (g : Int), vI (w : Int), vI p] := fun p hp2 => by
      have h := sp_Model_hasRow (K := K) (P := P) (J := J) (I := T) (b := m) (p := p) (n := g) (w := w) hM (by omega) hW (by omega) (by omega)
      rw [hT.1, show rowAt T 270 p w = rowAt I 270 p w from rowAt_congr (fun c a1 a2 => hT.2 270 _ (by omega))] at h
      exact h
    clear ih last hT gW hJ
    refine VW.iload (pc' := 201) d_Model_combines_199 rfl rfl ?_
    refine VW.aload_n (pc' := 202) d_Model_combines_201 rfl rfl ?_
    refine VW.gP (ci := 11) (T := T11) (N := 94) (k := 73) (k' := 73) (pc' := 205) d_Model_combines_202 rfl lk_Model_184 in11 rfl rfl rfl rfl (hM.k rfl) (hM.p (r := some 273) 73 rfl rfl) ?_
    refine VW.aload_n (pc' := 206) d_Model_combines_205 rfl rfl ?_
    refine VW.gI (ci := 11) (T := T11) (N := 94) (k := 71) (k' := 71) (pc' := 209) d_Model_combines_206 rfl lk_Model_434 in11 rfl rfl rfl rfl (hM.k rfl) (by first | exact g71 | exact g273 | exact g273a | rfl) ?_
    refine VW.iconst (pc' := 210) d_Model_combines_209 rfl (by decide) ?_
    refine VW.isub (pc' := 211) d_Model_combines_210 rfl (by omega) ?_
    refine VW.ild (pc' := 212) d_Model_combines_211 rfl (hM.k rfl) (by omega) (by omega) (by first | exact g71 | exact g273 | exact g273a | rfl) ?_
    refine VW.icmp_ge (tgt := 273) (pc' := 215) d_Model_combines_212 rfl rfl (fun c212 => ?_) (fun c212 => ?_)
    · refine VW.nrm ?_
      exfalso; omega
    · refine VW.iload_n (pc' := 216) d_Model_combines_215 rfl rfl ?_
      refine VW.if_ne (tgt := 273) (pc' := 219) d_Model_combines_216 rfl rfl (fun c216 => ?_) (fun c216 => ?_)
      · try have e216 := bIn c216
        refine VW.nrm ?_
        exfalso; omega
      · try have e216 := bIe c216
        refine VW.aload_n (pc' := 220) d_Model_combines_219 rfl rfl ?_
        refine VW.iload (pc' := 222) d_Model_combines_220 rfl rfl ?_
        refine VW.iload (pc' := 224) d_Model_combines_222 rfl rfl ?_
        refine VW.iload (pc' := 226) d_Model_combines_224 rfl rfl ?_
        refine VW.iload (pc' := 228) d_Model_combines_226 rfl rfl ?_
        refine VW.iload (pc' := 230) d_Model_combines_228 rfl rfl ?_
        refine VW.iload (pc' := 232) d_Model_combines_230 rfl rfl ?_
        refine VW.imul (pc' := 233) d_Model_combines_232 rfl (by omega) ?_
        refine VW.iadd (pc' := 234) d_Model_combines_233 rfl (by omega) ?_
        refine VW.cV (ci := 11) (T := T11) (N := 94) (pc' := 237) d_Model_combines_234 rfl mv_Model_hasRow lk_Model_460 rfl (hM.k rfl) rfl rfl rfl (Nat.le_refl _) (Nat.le_refl _) (hasM _ (by omega)) rfl rfl ?_
        refine VW.if_ne (tgt := 267) (pc' := 240) d_Model_combines_237 rfl rfl (fun c237 => ?_) (fun c237 => ?_)
        · try have e237 := bIn c237
          refine VW.iinc (pc' := 270) d_Model_combines_267 rfl rfl rfl (by omega) ?_
          refine VW.goto (pc' := 199) d_Model_combines_270 rfl ?_
          refine VW.pick [0, 1, 2, 3, 4, 5, 6, 7, 8] ?_
          first | exact nY e237 | exact nN e237
        · try have e237 := bIe c237
          refine VW.aload_n (pc' := 241) d_Model_combines_240 rfl rfl ?_
          refine VW.iload (pc' := 243) d_Model_combines_241 rfl rfl ?_
          refine VW.iload (pc' := 245) d_Model_combines_243 rfl rfl ?_
          refine VW.iload (pc' := 247) d_Model_combines_245 rfl rfl ?_
          refine VW.imul (pc' := 248) d_Model_combines_247 rfl (by omega) ?_
          refine VW.iadd (pc' := 249) d_Model_combines_248 rfl (by omega) ?_
          refine VW.iload (pc' := 251) d_Model_combines_249 rfl rfl ?_
          refine VW.iload (pc' := 253) d_Model_combines_251 rfl rfl ?_
          refine VW.iload (pc' := 255) d_Model_combines_253 rfl rfl ?_
          refine VW.imul (pc' := 256) d_Model_combines_255 rfl (by omega) ?_
          refine VW.iadd (pc' := 257) d_Model_combines_256 rfl (by omega) ?_
          refine VW.iload (pc' := 259) d_Model_combines_257 rfl rfl ?_
          refine VW.iconst (pc' := 260) d_Model_combines_259 rfl (by decide) ?_
          refine VW.iconst (pc' := 261) d_Model_combines_260 rfl (by decide) ?_
          refine VW.cV (ci := 11) (T := T11) (N := 94) (pc' := 264) d_Model_combines_261 rfl mv_Model_lays lk_Model_457 rfl (hM.k rfl) rfl rfl rfl (Nat.le_refl _) (Nat.le_refl _) (sp_Model_lays hM (by omega) (by omega) (by omega) (fun _ => ⟨by omega, by omega⟩) (fun y => absurd rfl y)) rfl rfl ?_
          refine VW.iinc (pc' := 267) d_Model_combines_264 rfl rfl rfl (by omega) ?_
          refine VW.iinc (pc' := 270) d_Model_combines_267 rfl rfl rfl (by omega) ?_
          refine VW.goto (pc' := 199) d_Model_combines_270 rfl ?_
          refine VW.pick [0, 1, 2, 3, 4, 5, 6, 7, 8] ?_
          first | exact nY e237 | exact nN e237
theorem cb_left {x r a b m : Int} {w n1 n2 : Nat} (hM : MW K P) (hx : 0 ≤ x ∧ x < 252) (hr : I 100 71 = r + 2) (h0 : 0 ≤ r ∧ r < 10) (hw2 : I 274 (r + 1) = w) (hn1 : I 273 r = n1) (hn2 : I 273 (r + 1) = n2) (ha : I 272 r = a) (hb : I 272 (r + 1) = b) (hp : 0 ≤ a ∧ b = a + (w : Int) * (n1 : Int) ∧ b + (w : Int) * (n2 : Int) ≤ 600000) (hW : w ≤ 10) (hN : n1 ≤ 512 ∧ n2 ≤ 512) (hJ : (cmbL (I 257 x) (seg I 270 a w n1) (seg I 270 b w n2)).length ≤ 1000) (hm : m = b + (w : Int) * (n2 : Int)) : ∀ (l i g : Nat) (T : IT), i + l = n1 → MJ I T m w g (onceL (cmbP (I 257 x) (seg I 270 b w n2)) [] (seg I 270 a w i)) → g ≤ i → VW m_Model_combines false (rmv 1 27) (exU K P J (.inl none) (fun I' => (I' 100 71 = r + 1 ∧ I' 273 r = (cmbL (I 257 x) (seg I 270 a w n1) (seg I 270 b w n2)).length ∧ I' 274 r = w ∧ seg I' 270 a w (cmbL (I 257 x) (seg I 270 a w n1) (seg I 270 b w n2)).length = (cmbL (I 257 x) (seg I 270 a w n1) (seg I 270 b w n2))) ∧ ∀ (o : Nat) (q : Int), ¬ (o = 270 ∧ a ≤ q) → ¬ (o = 273 ∧ q = r) → ¬ (o = 274 ∧ q = r) → ¬ (o = 100 ∧ q = 71) → I' o q = I o q)) K P J T 0 0 57 [(0, vR (some 100)), (1, vI x), (2, vI (I 257 x)), (3, vI a), (4, vI b), (5, vI (w : Int)), (6, vI m), (7, vI (g : Int)), (8, vI (i : Int))] [] := by
  have q1 : (w : Int) * (n1 : Int) ≤ 10 * 512 := mulUp (by omega) (by omega) (by omega) (by omega)
  have q2 : (w : Int) * (n2 : Int) ≤ 10 * 512 := mulUp (by omega) (by omega) (by omega) (by omega)
  have q10 := mulNN (w := (w : Int)) (k := (n1 : Int)) (by omega) (by omega)
  have q20 := mulNN (w := (w : Int)) (k := (n2 : Int)) (by omega) (by omega)
  have gW : ∀ g : Nat, g ≤ 2000 → 0 ≤ (w : Int) * (g : Int) ∧ (w : Int) * (g : Int) ≤ 20000 := fun g hg => by
    have := mulUp (w := (w : Int)) (k := (g : Int)) (W := 10) (n := 2000) (by omega) (by omega) (by omega) (by omega)
    exact ⟨mulNN (by omega) (by omega), by omega⟩
  have last := cb_last (J := J) hM hx hr h0 hw2 hn1 hn2 ha hb hp hW hN hJ hm
  have right := cb_right (J := J) hM hx hr h0 hw2 hn1 hn2 ha hb hp hW hN hJ hm
  intro l
  induction l with
  | zero =>
    intro i g T hi hT hg
    have ei : i = n1 := by omega
    rw [ei] at hT
    have rt := fun (z : I 257 x = 0) => right n2 0 g T (by omega) z (by rw [seg_0]; exact hT) (by omega)
    have lt := fun (z : I 257 x ≠ 0) (q : Int) => last g q T (by rw [show (cmbL (I 257 x) (seg I 270 a w n1) (seg I 270 b w n2)) = _ from if_neg z]; exact hT)
    have g71 : T 100 71 = r + 2 := (hT.2 100 71 (by omega)).trans hr
    have g273 : T 273 (r + 2 - 1) = n2 := by rw [show r + 2 - 1 = r + 1 by omega, hT.2 273 (r + 1) (by omega)]; exact hn2
    have g273a : T 273 (r + 2 - 2) = n1 := by rw [show r + 2 - 2 = r by omega, hT.2 273 r (by omega)]; exact hn1
    clear last right hT gW hJ
    have at199 : VW m_Model_combines false (rmv 1 27) (exU K P J (.inl none) (fun I' => (I' 100 71 = r + 1 ∧ I' 273 r = (cmbL (I 257 x) (seg I 270 a w n1) (seg I 270 b w n2)).length ∧ I' 274 r = w ∧ seg I' 270 a w (cmbL (I 257 x) (seg I 270 a w n1) (seg I 270 b w n2)).length = (cmbL (I 257 x) (seg I 270 a w n1) (seg I 270 b w n2))) ∧ ∀ (o : Nat) (q : Int), ¬ (o = 270 ∧ a ≤ q) → ¬ (o = 273 ∧ q = r) → ¬ (o = 274 ∧ q = r) → ¬ (o = 100 ∧ q = 71) → I' o q = I o q)) K P J T 0 0 199 [(0, vR (some 100)), (1, vI x), (2, vI (I 257 x)), (3, vI a), (4, vI b), (5, vI (w : Int)), (6, vI m), (7, vI (g : Int)), (8, vI 0)] [] := by
      by_cases z : I 257 x = 0
      · exact rt z
      · have lt1 := lt z
        clear lt rt
        refine VW.iload (pc' := 201) d_Model_combines_199 rfl rfl ?_
        refine VW.aload_n (pc' := 202) d_Model_combines_201 rfl rfl ?_
        refine VW.gP (ci := 11) (T := T11) (N := 94) (k := 73) (k' := 73) (pc' := 205) d_Model_combines_202 rfl lk_Model_184 in11 rfl rfl rfl rfl (hM.k rfl) (hM.p (r := some 273) 73 rfl rfl) ?_
        refine VW.aload_n (pc' := 206) d_Model_combines_205 rfl rfl ?_
        refine VW.gI (ci := 11) (T := T11) (N := 94) (k := 71) (k' := 71) (pc' := 209) d_Model_combines_206 rfl lk_Model_434 in11 rfl rfl rfl rfl (hM.k rfl) (by first | exact g71 | exact g273 | exact g273a | rfl) ?_
        refine VW.iconst (pc' := 210) d_Model_combines_209 rfl (by decide) ?_
        refine VW.isub (pc' := 211) d_Model_combines_210 rfl (by omega) ?_
        refine VW.ild (pc' := 212) d_Model_combines_211 rfl (hM.k rfl) (by omega) (by omega) (by first | exact g71 | exact g273 | exact g273a | rfl) ?_
        refine VW.icmp_ge (tgt := 273) (pc' := 215) d_Model_combines_212 rfl rfl (fun c212 => ?_) (fun c212 => ?_)
        · refine VW.pick [0, 1, 2, 3, 4, 5, 6, 7, 8] ?_
          exact lt1 _
        · refine VW.iload_n (pc' := 216) d_Model_combines_215 rfl rfl ?_
          refine VW.if_ne (tgt := 273) (pc' := 219) d_Model_combines_216 rfl rfl (fun c216 => ?_) (fun c216 => ?_)
          · try have e216 := bIn c216
            refine VW.pick [0, 1, 2, 3, 4, 5, 6, 7, 8] ?_
            exact lt1 _
          · try have e216 := bIe c216
            exfalso; omega
    clear rt lt
    refine VW.iload (pc' := 59) d_Model_combines_57 rfl rfl ?_
    refine VW.aload_n (pc' := 60) d_Model_combines_59 rfl rfl ?_
    refine VW.gP (ci := 11) (T := T11) (N := 94) (k := 73) (k' := 73) (pc' := 63) d_Model_combines_60 rfl lk_Model_184 in11 rfl rfl rfl rfl (hM.k rfl) (hM.p (r := some 273) 73 rfl rfl) ?_
    refine VW.aload_n (pc' := 64) d_Model_combines_63 rfl rfl ?_
    refine VW.gI (ci := 11) (T := T11) (N := 94) (k := 71) (k' := 71) (pc' := 67) d_Model_combines_64 rfl lk_Model_434 in11 rfl rfl rfl rfl (hM.k rfl) (by first | exact g71 | exact g273 | exact g273a | rfl) ?_
    refine VW.iconst (pc' := 68) d_Model_combines_67 rfl (by decide) ?_
    refine VW.isub (pc' := 69) d_Model_combines_68 rfl (by omega) ?_
    refine VW.ild (pc' := 70) d_Model_combines_69 rfl (hM.k rfl) (by omega) (by omega) (by first | exact g71 | exact g273 | exact g273a | rfl) ?_
    refine VW.icmp_ge (tgt := 196) (pc' := 73) d_Model_combines_70 rfl rfl (fun c70 => ?_) (fun c70 => ?_)
    · refine VW.iconst (pc' := 197) d_Model_combines_196 rfl (by decide) ?_
      refine VW.istore (pc' := 199) d_Model_combines_197 rfl rfl ?_
      refine VW.pick [0, 1, 2, 3, 4, 5, 6, 7, 8] ?_
      exact at199
    · exfalso; omega
  | succ l ih =>
    intro i g T hi hT hg
    have g71 : T 100 71 = r + 2 := (hT.2 100 71 (by omega)).trans hr
    have g273 : T 273 (r + 2 - 1) = n2 := by rw [show r + 2 - 1 = r + 1 by omega, hT.2 273 (r + 1) (by omega)]; exact hn2
    have g273a : T 273 (r + 2 - 2) = n1 := by rw [show r + 2 - 2 = r by omega, hT.2 273 r (by omega)]; exact hn1
    have s1 := mulStep (w := (w : Int)) (k := (i : Int)) (n := (n1 : Int)) (by omega) (by omega)
    have s2 := mulNN (w := (w : Int)) (k := (i : Int)) (by omega) (by omega)
    have ei : ((i + 1 : Nat) : Int) = (i : Int) + 1 := by omega
    have eg : ((g + 1 : Nat) : Int) = (g : Int) + 1 := by omega
    have gw := gW g (by omega)
    have nY : cmbP (I 257 x) (seg I 270 b w n2) (rowAt I 270 (a + (w : Int) * (i : Int)) w) → (rowAt I 270 (a + (w : Int) * (i : Int)) w) ∉ (onceL (cmbP (I 257 x) (seg I 270 b w n2)) [] (seg I 270 a w i)) → VW m_Model_combines false (rmv 1 27) (exU K P J (.inl none) (fun I' => (I' 100 71 = r + 1 ∧ I' 273 r = (cmbL (I 257 x) (seg I 270 a w n1) (seg I 270 b w n2)).length ∧ I' 274 r = w ∧ seg I' 270 a w (cmbL (I 257 x) (seg I 270 a w n1) (seg I 270 b w n2)).length = (cmbL (I 257 x) (seg I 270 a w n1) (seg I 270 b w n2))) ∧ ∀ (o : Nat) (q : Int), ¬ (o = 270 ∧ a ≤ q) → ¬ (o = 273 ∧ q = r) → ¬ (o = 274 ∧ q = r) → ¬ (o = 100 ∧ q = 71) → I' o q = I o q)) K P J (layB T (m + (w : Int) * (g : Int)) (a + (w : Int) * (i : Int)) w (-1) 0) 0 0 57 [(0, vR (some 100)), (1, vI x), (2, vI (I 257 x)), (3, vI a), (4, vI b), (5, vI (w : Int)), (6, vI m), (7, vI ((g : Int) + 1)), (8, vI ((i : Int) + 1))] [] := fun z2 z => by
      have hA := hT.add (a := a + (w : Int) * (i : Int)) (b := -1) (va := w) (vb := 0) rfl (fun y => ⟨by omega, by omega⟩) (fun y => absurd rfl y)
      rw [part_nul, part_row (by omega), show (rowAt I 270 (a + (w : Int) * (i : Int)) w) ++ List.replicate 0 (-2147483648) = (rowAt I 270 (a + (w : Int) * (i : Int)) w) from List.append_nil _] at hA
      have := ih (i + 1) (g + 1) _ (by omega) (by rw [seg_succ, onceL_snoc, onceS_1 z2 z]; exact hA) (by omega)
      rw [ei, eg] at this
      exact this
    have nN : ¬ (cmbP (I 257 x) (seg I 270 b w n2) (rowAt I 270 (a + (w : Int) * (i : Int)) w) ∧ (rowAt I 270 (a + (w : Int) * (i : Int)) w) ∉ (onceL (cmbP (I 257 x) (seg I 270 b w n2)) [] (seg I 270 a w i))) → VW m_Model_combines false (rmv 1 27) (exU K P J (.inl none) (fun I' => (I' 100 71 = r + 1 ∧ I' 273 r = (cmbL (I 257 x) (seg I 270 a w n1) (seg I 270 b w n2)).length ∧ I' 274 r = w ∧ seg I' 270 a w (cmbL (I 257 x) (seg I 270 a w n1) (seg I 270 b w n2)).length = (cmbL (I 257 x) (seg I 270 a w n1) (seg I 270 b w n2))) ∧ ∀ (o : Nat) (q : Int), ¬ (o = 270 ∧ a ≤ q) → ¬ (o = 273 ∧ q = r) → ¬ (o = 274 ∧ q = r) → ¬ (o = 100 ∧ q = 71) → I' o q = I o q)) K P J T 0 0 57 [(0, vR (some 100)), (1, vI x), (2, vI (I 257 x)), (3, vI a), (4, vI b), (5, vI (w : Int)), (6, vI m), (7, vI (g : Int)), (8, vI ((i : Int) + 1))] [] := fun z => by
      have := ih (i + 1) g _ (by omega) (by rw [seg_succ, onceL_snoc, onceS_0 z]; exact hT) (by omega)
      rw [ei] at this
      exact this
    have nN1 := fun (z : (rowAt I 270 (a + (w : Int) * (i : Int)) w) ∈ (onceL (cmbP (I 257 x) (seg I 270 b w n2)) [] (seg I 270 a w i))) => nN (fun y => y.2 z)
    have c0 := fun (z : I 257 x = 0) => nY (Or.inl z)
    have c1 := fun (z : I 257 x = 1) (z2 : (rowAt I 270 (a + (w : Int) * (i : Int)) w) ∈ seg I 270 b w n2) => nY (Or.inr (Or.inl ⟨z, z2⟩))
    have c2 := fun (z : I 257 x ≠ 0) (z1 : I 257 x ≠ 1) (z2 : (rowAt I 270 (a + (w : Int) * (i : Int)) w) ∉ seg I 270 b w n2) => nY (Or.inr (Or.inr ⟨z, z1, z2⟩))
    have d1 := fun (z : I 257 x ≠ 0) (z1 : I 257 x = 1) (z2 : (rowAt I 270 (a + (w : Int) * (i : Int)) w) ∉ seg I 270 b w n2) => nN (fun y => by rcases y.1 with h | h | h; exact z h; exact z2 h.2; exact h.2.1 z1)
    have d2 := fun (z : I 257 x ≠ 0) (z1 : I 257 x ≠ 1) (z2 : (rowAt I 270 (a + (w : Int) * (i : Int)) w) ∈ seg I 270 b w n2) => nN (fun y => by rcases y.1 with h | h | h; exact z h; exact z1 h.1; exact h.2.2 z2)
    have hasR : Sp m_Model_hasRow false (rmv 0 0) (ex K P J T (.inl (some (vI (bI ((rowAt I 270 (a + (w : Int) * (i : Int)) w) ∈ seg I 270 b w n2)))))) K P J T [vR (some 100), vI b, vI (n2 : Int), vI (w : Int), vI (a + (w : Int) * (i : Int))] := by
      have h := sp_Model_hasRow (K := K) (P := P) (J := J) (I := T) (b := b) (p := a + (w : Int) * (i : Int)) (n := n2) (w := w) hM (by omega) hW (by omega) (by omega)
      rw [show seg T 270 b w n2 = seg I 270 b w n2 from seg_congr (fun c a1 a2 => hT.2 270 _ (by omega)), show rowAt T 270 (a + (w : Int) * (i : Int)) w = (rowAt I 270 (a + (w : Int) * (i : Int)) w) from rowAt_congr (fun c a1 a2 => hT.2 270 _ (by omega))] at h
      exact h
    have hasM : ∀ (p : Int), (0 ≤ p ∧ p + w ≤ m) → Sp m_Model_hasRow false (rmv 0 0) (ex K P J T (.inl (some (vI (bI (rowAt I 270 p w ∈ (onceL (cmbP (I 257 x) (seg I 270 b w n2)) [] (seg I 270 a w i)))))))) K P J T [vR (some 100), vI m, vI (g : Int), vI (w : Int), vI p] := fun p hp2 => by
      have h := sp_Model_hasRow (K := K) (P := P) (J := J) (I := T) (b := m) (p := p) (n := g) (w := w) hM (by omega) hW (by omega) (by omega)
      rw [hT.1, show rowAt T 270 p w = rowAt I 270 p w from rowAt_congr (fun c a1 a2 => hT.2 270 _ (by omega))] at h
      exact h
    clear ih last right hT gW hJ nY nN
    refine VW.iload (pc' := 59) d_Model_combines_57 rfl rfl ?_
    refine VW.aload_n (pc' := 60) d_Model_combines_59 rfl rfl ?_
    refine VW.gP (ci := 11) (T := T11) (N := 94) (k := 73) (k' := 73) (pc' := 63) d_Model_combines_60 rfl lk_Model_184 in11 rfl rfl rfl rfl (hM.k rfl) (hM.p (r := some 273) 73 rfl rfl) ?_
    refine VW.aload_n (pc' := 64) d_Model_combines_63 rfl rfl ?_
    refine VW.gI (ci := 11) (T := T11) (N := 94) (k := 71) (k' := 71) (pc' := 67) d_Model_combines_64 rfl lk_Model_434 in11 rfl rfl rfl rfl (hM.k rfl) (by first | exact g71 | exact g273 | exact g273a | rfl) ?_
    refine VW.iconst (pc' := 68) d_Model_combines_67 rfl (by decide) ?_
    refine VW.isub (pc' := 69) d_Model_combines_68 rfl (by omega) ?_
    refine VW.ild (pc' := 70) d_Model_combines_69 rfl (hM.k rfl) (by omega) (by omega) (by first | exact g71 | exact g273 | exact g273a | rfl) ?_
    refine VW.icmp_ge (tgt := 196) (pc' := 73) d_Model_combines_70 rfl rfl (fun c70 => ?_) (fun c70 => ?_)
    · exfalso; omega
    · refine VW.iload_n (pc' := 74) d_Model_combines_73 rfl rfl ?_
      refine VW.if_eq (tgt := 110) (pc' := 77) d_Model_combines_74 rfl rfl (fun c74 => ?_) (fun c74 => ?_)
      · try have e74 := bIe c74
        refine VW.iconst (pc' := 111) d_Model_combines_110 rfl (by decide) ?_
        refine VW.istore (pc' := 113) d_Model_combines_111 rfl rfl ?_
        refine VW.iload_n (pc' := 114) d_Model_combines_113 rfl rfl ?_
        refine VW.if_eq (tgt := 132) (pc' := 117) d_Model_combines_114 rfl rfl (fun c114 => ?_) (fun c114 => ?_)
        · try have e114 := bIe c114
          refine VW.iconst (pc' := 133) d_Model_combines_132 rfl (by decide) ?_
          refine VW.goto (pc' := 137) d_Model_combines_133 rfl ?_
          refine VW.istore (pc' := 139) d_Model_combines_137 rfl rfl ?_
          refine VW.iload (pc' := 141) d_Model_combines_139 rfl rfl ?_
          refine VW.if_eq (tgt := 190) (pc' := 144) d_Model_combines_141 rfl rfl (fun c141 => absurd c141 (by decide)) (fun _ => ?_)
          refine VW.aload_n (pc' := 145) d_Model_combines_144 rfl rfl ?_
          refine VW.iload (pc' := 147) d_Model_combines_145 rfl rfl ?_
          refine VW.iload (pc' := 149) d_Model_combines_147 rfl rfl ?_
          refine VW.iload (pc' := 151) d_Model_combines_149 rfl rfl ?_
          refine VW.iload_n (pc' := 152) d_Model_combines_151 rfl rfl ?_
          refine VW.iload (pc' := 154) d_Model_combines_152 rfl rfl ?_
          refine VW.iload (pc' := 156) d_Model_combines_154 rfl rfl ?_
          refine VW.imul (pc' := 157) d_Model_combines_156 rfl (by omega) ?_
          refine VW.iadd (pc' := 158) d_Model_combines_157 rfl (by omega) ?_
          refine VW.cV (ci := 11) (T := T11) (N := 94) (pc' := 161) d_Model_combines_158 rfl mv_Model_hasRow lk_Model_460 rfl (hM.k rfl) rfl rfl rfl (Nat.le_refl _) (Nat.le_refl _) (hasM _ (by omega)) rfl rfl ?_
          refine VW.if_ne (tgt := 190) (pc' := 164) d_Model_combines_161 rfl rfl (fun c161 => ?_) (fun c161 => ?_)
          · try have e161 := bIn c161
            refine VW.iinc (pc' := 193) d_Model_combines_190 rfl rfl rfl (by omega) ?_
            refine VW.goto (pc' := 57) d_Model_combines_193 rfl ?_
            refine VW.pick [0, 1, 2, 3, 4, 5, 6, 7, 8] ?_
            first | exact nN1 e161 | exact c0 c74 e161 | exact c1 c121 e103 e161 | exact c2 c74 c121 e103 e161 | exact d1 c74 c121 e103 | exact d2 c74 c121 e103 | (exfalso; omega)
          · try have e161 := bIe c161
            refine VW.aload_n (pc' := 165) d_Model_combines_164 rfl rfl ?_
            refine VW.iload (pc' := 167) d_Model_combines_165 rfl rfl ?_
            refine VW.iload (pc' := 169) d_Model_combines_167 rfl rfl ?_
            refine VW.iload (pc' := 171) d_Model_combines_169 rfl rfl ?_
            refine VW.imul (pc' := 172) d_Model_combines_171 rfl (by omega) ?_
            refine VW.iadd (pc' := 173) d_Model_combines_172 rfl (by omega) ?_
            refine VW.iload_n (pc' := 174) d_Model_combines_173 rfl rfl ?_
            refine VW.iload (pc' := 176) d_Model_combines_174 rfl rfl ?_
            refine VW.iload (pc' := 178) d_Model_combines_176 rfl rfl ?_
            refine VW.imul (pc' := 179) d_Model_combines_178 rfl (by omega) ?_
            refine VW.iadd (pc' := 180) d_Model_combines_179 rfl (by omega) ?_
            refine VW.iload (pc' := 182) d_Model_combines_180 rfl rfl ?_
            refine VW.iconst (pc' := 183) d_Model_combines_182 rfl (by decide) ?_
            refine VW.iconst (pc' := 184) d_Model_combines_183 rfl (by decide) ?_
            refine VW.cV (ci := 11) (T := T11) (N := 94) (pc' := 187) d_Model_combines_184 rfl mv_Model_lays lk_Model_457 rfl (hM.k rfl) rfl rfl rfl (Nat.le_refl _) (Nat.le_refl _) (sp_Model_lays hM (by omega) (by omega) (by omega) (fun _ => ⟨by omega, by omega⟩) (fun y => absurd rfl y)) rfl rfl ?_
            refine VW.iinc (pc' := 190) d_Model_combines_187 rfl rfl rfl (by omega) ?_
            refine VW.iinc (pc' := 193) d_Model_combines_190 rfl rfl rfl (by omega) ?_
            refine VW.goto (pc' := 57) d_Model_combines_193 rfl ?_
            refine VW.pick [0, 1, 2, 3, 4, 5, 6, 7, 8] ?_
            first | exact nN1 e161 | exact c0 c74 e161 | exact c1 c121 e103 e161 | exact c2 c74 c121 e103 e161 | exact d1 c74 c121 e103 | exact d2 c74 c121 e103 | (exfalso; omega)
        · try have e114 := bIn c114
          refine VW.iload (pc' := 119) d_Model_combines_117 rfl rfl ?_
          refine VW.iload_n (pc' := 120) d_Model_combines_119 rfl rfl ?_
          refine VW.iconst (pc' := 121) d_Model_combines_120 rfl (by decide) ?_
          refine VW.icmp_ne (tgt := 128) (pc' := 124) d_Model_combines_121 rfl rfl (fun c121 => ?_) (fun c121 => ?_)
          · refine VW.iconst (pc' := 129) d_Model_combines_128 rfl (by decide) ?_
            refine VW.icmp_ne (tgt := 136) (pc' := 132) d_Model_combines_129 rfl rfl (fun c129 => absurd c129 (by decide)) (fun _ => ?_)
            refine VW.iconst (pc' := 133) d_Model_combines_132 rfl (by decide) ?_
            refine VW.goto (pc' := 137) d_Model_combines_133 rfl ?_
            refine VW.istore (pc' := 139) d_Model_combines_137 rfl rfl ?_
            refine VW.iload (pc' := 141) d_Model_combines_139 rfl rfl ?_
            refine VW.if_eq (tgt := 190) (pc' := 144) d_Model_combines_141 rfl rfl (fun c141 => absurd c141 (by decide)) (fun _ => ?_)
            refine VW.aload_n (pc' := 145) d_Model_combines_144 rfl rfl ?_
            refine VW.iload (pc' := 147) d_Model_combines_145 rfl rfl ?_
            refine VW.iload (pc' := 149) d_Model_combines_147 rfl rfl ?_
            refine VW.iload (pc' := 151) d_Model_combines_149 rfl rfl ?_
            refine VW.iload_n (pc' := 152) d_Model_combines_151 rfl rfl ?_
            refine VW.iload (pc' := 154) d_Model_combines_152 rfl rfl ?_
            refine VW.iload (pc' := 156) d_Model_combines_154 rfl rfl ?_
            refine VW.imul (pc' := 157) d_Model_combines_156 rfl (by omega) ?_
            refine VW.iadd (pc' := 158) d_Model_combines_157 rfl (by omega) ?_
            refine VW.cV (ci := 11) (T := T11) (N := 94) (pc' := 161) d_Model_combines_158 rfl mv_Model_hasRow lk_Model_460 rfl (hM.k rfl) rfl rfl rfl (Nat.le_refl _) (Nat.le_refl _) (hasM _ (by omega)) rfl rfl ?_
            refine VW.if_ne (tgt := 190) (pc' := 164) d_Model_combines_161 rfl rfl (fun c161 => ?_) (fun c161 => ?_)
            · try have e161 := bIn c161
              refine VW.iinc (pc' := 193) d_Model_combines_190 rfl rfl rfl (by omega) ?_
              refine VW.goto (pc' := 57) d_Model_combines_193 rfl ?_
              refine VW.pick [0, 1, 2, 3, 4, 5, 6, 7, 8] ?_
              first | exact nN1 e161 | exact c0 c74 e161 | exact c1 c121 e103 e161 | exact c2 c74 c121 e103 e161 | exact d1 c74 c121 e103 | exact d2 c74 c121 e103 | (exfalso; omega)
            · try have e161 := bIe c161
              refine VW.aload_n (pc' := 165) d_Model_combines_164 rfl rfl ?_
              refine VW.iload (pc' := 167) d_Model_combines_165 rfl rfl ?_
              refine VW.iload (pc' := 169) d_Model_combines_167 rfl rfl ?_
              refine VW.iload (pc' := 171) d_Model_combines_169 rfl rfl ?_
              refine VW.imul (pc' := 172) d_Model_combines_171 rfl (by omega) ?_
              refine VW.iadd (pc' := 173) d_Model_combines_172 rfl (by omega) ?_
              refine VW.iload_n (pc' := 174) d_Model_combines_173 rfl rfl ?_
              refine VW.iload (pc' := 176) d_Model_combines_174 rfl rfl ?_
              refine VW.iload (pc' := 178) d_Model_combines_176 rfl rfl ?_
              refine VW.imul (pc' := 179) d_Model_combines_178 rfl (by omega) ?_
              refine VW.iadd (pc' := 180) d_Model_combines_179 rfl (by omega) ?_
              refine VW.iload (pc' := 182) d_Model_combines_180 rfl rfl ?_
              refine VW.iconst (pc' := 183) d_Model_combines_182 rfl (by decide) ?_
              refine VW.iconst (pc' := 184) d_Model_combines_183 rfl (by decide) ?_
              refine VW.cV (ci := 11) (T := T11) (N := 94) (pc' := 187) d_Model_combines_184 rfl mv_Model_lays lk_Model_457 rfl (hM.k rfl) rfl rfl rfl (Nat.le_refl _) (Nat.le_refl _) (sp_Model_lays hM (by omega) (by omega) (by omega) (fun _ => ⟨by omega, by omega⟩) (fun y => absurd rfl y)) rfl rfl ?_
              refine VW.iinc (pc' := 190) d_Model_combines_187 rfl rfl rfl (by omega) ?_
              refine VW.iinc (pc' := 193) d_Model_combines_190 rfl rfl rfl (by omega) ?_
              refine VW.goto (pc' := 57) d_Model_combines_193 rfl ?_
              refine VW.pick [0, 1, 2, 3, 4, 5, 6, 7, 8] ?_
              first | exact nN1 e161 | exact c0 c74 e161 | exact c1 c121 e103 e161 | exact c2 c74 c121 e103 e161 | exact d1 c74 c121 e103 | exact d2 c74 c121 e103 | (exfalso; omega)
          · refine VW.iconst (pc' := 125) d_Model_combines_124 rfl (by decide) ?_
            refine VW.goto (pc' := 129) d_Model_combines_125 rfl ?_
            refine VW.icmp_ne (tgt := 136) (pc' := 132) d_Model_combines_129 rfl rfl (fun _ => ?_) (fun c129 => absurd c129 (by decide))
            refine VW.iconst (pc' := 137) d_Model_combines_136 rfl (by decide) ?_
            refine VW.istore (pc' := 139) d_Model_combines_137 rfl rfl ?_
            refine VW.iload (pc' := 141) d_Model_combines_139 rfl rfl ?_
            refine VW.if_eq (tgt := 190) (pc' := 144) d_Model_combines_141 rfl rfl (fun _ => ?_) (fun c141 => absurd c141 (by decide))
            refine VW.iinc (pc' := 193) d_Model_combines_190 rfl rfl rfl (by omega) ?_
            refine VW.goto (pc' := 57) d_Model_combines_193 rfl ?_
            refine VW.pick [0, 1, 2, 3, 4, 5, 6, 7, 8] ?_
            first | exact nN1 e161 | exact c0 c74 e161 | exact c1 c121 e103 e161 | exact c2 c74 c121 e103 e161 | exact d1 c74 c121 e103 | exact d2 c74 c121 e103 | (exfalso; omega)
      · try have e74 := bIn c74
        refine VW.aload_n (pc' := 78) d_Model_combines_77 rfl rfl ?_
        refine VW.iload (pc' := 80) d_Model_combines_78 rfl rfl ?_
        refine VW.aload_n (pc' := 81) d_Model_combines_80 rfl rfl ?_
        refine VW.gP (ci := 11) (T := T11) (N := 94) (k := 73) (k' := 73) (pc' := 84) d_Model_combines_81 rfl lk_Model_184 in11 rfl rfl rfl rfl (hM.k rfl) (hM.p (r := some 273) 73 rfl rfl) ?_
        refine VW.aload_n (pc' := 85) d_Model_combines_84 rfl rfl ?_
        refine VW.gI (ci := 11) (T := T11) (N := 94) (k := 71) (k' := 71) (pc' := 88) d_Model_combines_85 rfl lk_Model_434 in11 rfl rfl rfl rfl (hM.k rfl) (by first | exact g71 | exact g273 | exact g273a | rfl) ?_
        refine VW.iconst (pc' := 89) d_Model_combines_88 rfl (by decide) ?_
        refine VW.isub (pc' := 90) d_Model_combines_89 rfl (by omega) ?_
        refine VW.ild (pc' := 91) d_Model_combines_90 rfl (hM.k rfl) (by omega) (by omega) (by first | exact g71 | exact g273 | exact g273a | rfl) ?_
        refine VW.iload (pc' := 93) d_Model_combines_91 rfl rfl ?_
        refine VW.iload_n (pc' := 94) d_Model_combines_93 rfl rfl ?_
        refine VW.iload (pc' := 96) d_Model_combines_94 rfl rfl ?_
        refine VW.iload (pc' := 98) d_Model_combines_96 rfl rfl ?_
        refine VW.imul (pc' := 99) d_Model_combines_98 rfl (by omega) ?_
        refine VW.iadd (pc' := 100) d_Model_combines_99 rfl (by omega) ?_
        refine VW.cV (ci := 11) (T := T11) (N := 94) (pc' := 103) d_Model_combines_100 rfl mv_Model_hasRow lk_Model_460 rfl (hM.k rfl) rfl rfl rfl (Nat.le_refl _) (Nat.le_refl _) (hasR) rfl rfl ?_
        refine VW.if_eq (tgt := 110) (pc' := 106) d_Model_combines_103 rfl rfl (fun c103 => ?_) (fun c103 => ?_)
        · try have e103 := bIe c103
          refine VW.iconst (pc' := 111) d_Model_combines_110 rfl (by decide) ?_
          refine VW.istore (pc' := 113) d_Model_combines_111 rfl rfl ?_
          refine VW.iload_n (pc' := 114) d_Model_combines_113 rfl rfl ?_
          refine VW.if_eq (tgt := 132) (pc' := 117) d_Model_combines_114 rfl rfl (fun c114 => ?_) (fun c114 => ?_)
          · try have e114 := bIe c114
            refine VW.iconst (pc' := 133) d_Model_combines_132 rfl (by decide) ?_
            refine VW.goto (pc' := 137) d_Model_combines_133 rfl ?_
            refine VW.istore (pc' := 139) d_Model_combines_137 rfl rfl ?_
            refine VW.iload (pc' := 141) d_Model_combines_139 rfl rfl ?_
            refine VW.if_eq (tgt := 190) (pc' := 144) d_Model_combines_141 rfl rfl (fun c141 => absurd c141 (by decide)) (fun _ => ?_)
            refine VW.aload_n (pc' := 145) d_Model_combines_144 rfl rfl ?_
            refine VW.iload (pc' := 147) d_Model_combines_145 rfl rfl ?_
            refine VW.iload (pc' := 149) d_Model_combines_147 rfl rfl ?_
            refine VW.iload (pc' := 151) d_Model_combines_149 rfl rfl ?_
            refine VW.iload_n (pc' := 152) d_Model_combines_151 rfl rfl ?_
            refine VW.iload (pc' := 154) d_Model_combines_152 rfl rfl ?_
            refine VW.iload (pc' := 156) d_Model_combines_154 rfl rfl ?_
            refine VW.imul (pc' := 157) d_Model_combines_156 rfl (by omega) ?_
            refine VW.iadd (pc' := 158) d_Model_combines_157 rfl (by omega) ?_
            refine VW.cV (ci := 11) (T := T11) (N := 94) (pc' := 161) d_Model_combines_158 rfl mv_Model_hasRow lk_Model_460 rfl (hM.k rfl) rfl rfl rfl (Nat.le_refl _) (Nat.le_refl _) (hasM _ (by omega)) rfl rfl ?_
            refine VW.if_ne (tgt := 190) (pc' := 164) d_Model_combines_161 rfl rfl (fun c161 => ?_) (fun c161 => ?_)
            · try have e161 := bIn c161
              refine VW.iinc (pc' := 193) d_Model_combines_190 rfl rfl rfl (by omega) ?_
              refine VW.goto (pc' := 57) d_Model_combines_193 rfl ?_
              refine VW.pick [0, 1, 2, 3, 4, 5, 6, 7, 8] ?_
              first | exact nN1 e161 | exact c0 c74 e161 | exact c1 c121 e103 e161 | exact c2 c74 c121 e103 e161 | exact d1 c74 c121 e103 | exact d2 c74 c121 e103 | (exfalso; omega)
            · try have e161 := bIe c161
              refine VW.aload_n (pc' := 165) d_Model_combines_164 rfl rfl ?_
              refine VW.iload (pc' := 167) d_Model_combines_165 rfl rfl ?_
              refine VW.iload (pc' := 169) d_Model_combines_167 rfl rfl ?_
              refine VW.iload (pc' := 171) d_Model_combines_169 rfl rfl ?_
              refine VW.imul (pc' := 172) d_Model_combines_171 rfl (by omega) ?_
              refine VW.iadd (pc' := 173) d_Model_combines_172 rfl (by omega) ?_
              refine VW.iload_n (pc' := 174) d_Model_combines_173 rfl rfl ?_
              refine VW.iload (pc' := 176) d_Model_combines_174 rfl rfl ?_
              refine VW.iload (pc' := 178) d_Model_combines_176 rfl rfl ?_
              refine VW.imul (pc' := 179) d_Model_combines_178 rfl (by omega) ?_
              refine VW.iadd (pc' := 180) d_Model_combines_179 rfl (by omega) ?_
              refine VW.iload (pc' := 182) d_Model_combines_180 rfl rfl ?_
              refine VW.iconst (pc' := 183) d_Model_combines_182 rfl (by decide) ?_
              refine VW.iconst (pc' := 184) d_Model_combines_183 rfl (by decide) ?_
              refine VW.cV (ci := 11) (T := T11) (N := 94) (pc' := 187) d_Model_combines_184 rfl mv_Model_lays lk_Model_457 rfl (hM.k rfl) rfl rfl rfl (Nat.le_refl _) (Nat.le_refl _) (sp_Model_lays hM (by omega) (by omega) (by omega) (fun _ => ⟨by omega, by omega⟩) (fun y => absurd rfl y)) rfl rfl ?_
              refine VW.iinc (pc' := 190) d_Model_combines_187 rfl rfl rfl (by omega) ?_
              refine VW.iinc (pc' := 193) d_Model_combines_190 rfl rfl rfl (by omega) ?_
              refine VW.goto (pc' := 57) d_Model_combines_193 rfl ?_
              refine VW.pick [0, 1, 2, 3, 4, 5, 6, 7, 8] ?_
              first | exact nN1 e161 | exact c0 c74 e161 | exact c1 c121 e103 e161 | exact c2 c74 c121 e103 e161 | exact d1 c74 c121 e103 | exact d2 c74 c121 e103 | (exfalso; omega)
          · try have e114 := bIn c114
            refine VW.iload (pc' := 119) d_Model_combines_117 rfl rfl ?_
            refine VW.iload_n (pc' := 120) d_Model_combines_119 rfl rfl ?_
            refine VW.iconst (pc' := 121) d_Model_combines_120 rfl (by decide) ?_
            refine VW.icmp_ne (tgt := 128) (pc' := 124) d_Model_combines_121 rfl rfl (fun c121 => ?_) (fun c121 => ?_)
            · refine VW.iconst (pc' := 129) d_Model_combines_128 rfl (by decide) ?_
              refine VW.icmp_ne (tgt := 136) (pc' := 132) d_Model_combines_129 rfl rfl (fun c129 => absurd c129 (by decide)) (fun _ => ?_)
              refine VW.iconst (pc' := 133) d_Model_combines_132 rfl (by decide) ?_
              refine VW.goto (pc' := 137) d_Model_combines_133 rfl ?_
              refine VW.istore (pc' := 139) d_Model_combines_137 rfl rfl ?_
              refine VW.iload (pc' := 141) d_Model_combines_139 rfl rfl ?_
              refine VW.if_eq (tgt := 190) (pc' := 144) d_Model_combines_141 rfl rfl (fun c141 => absurd c141 (by decide)) (fun _ => ?_)
              refine VW.aload_n (pc' := 145) d_Model_combines_144 rfl rfl ?_
              refine VW.iload (pc' := 147) d_Model_combines_145 rfl rfl ?_
              refine VW.iload (pc' := 149) d_Model_combines_147 rfl rfl ?_
              refine VW.iload (pc' := 151) d_Model_combines_149 rfl rfl ?_
              refine VW.iload_n (pc' := 152) d_Model_combines_151 rfl rfl ?_
              refine VW.iload (pc' := 154) d_Model_combines_152 rfl rfl ?_
              refine VW.iload (pc' := 156) d_Model_combines_154 rfl rfl ?_
              refine VW.imul (pc' := 157) d_Model_combines_156 rfl (by omega) ?_
              refine VW.iadd (pc' := 158) d_Model_combines_157 rfl (by omega) ?_
              refine VW.cV (ci := 11) (T := T11) (N := 94) (pc' := 161) d_Model_combines_158 rfl mv_Model_hasRow lk_Model_460 rfl (hM.k rfl) rfl rfl rfl (Nat.le_refl _) (Nat.le_refl _) (hasM _ (by omega)) rfl rfl ?_
              refine VW.if_ne (tgt := 190) (pc' := 164) d_Model_combines_161 rfl rfl (fun c161 => ?_) (fun c161 => ?_)
              · try have e161 := bIn c161
                refine VW.iinc (pc' := 193) d_Model_combines_190 rfl rfl rfl (by omega) ?_
                refine VW.goto (pc' := 57) d_Model_combines_193 rfl ?_
                refine VW.pick [0, 1, 2, 3, 4, 5, 6, 7, 8] ?_
                first | exact nN1 e161 | exact c0 c74 e161 | exact c1 c121 e103 e161 | exact c2 c74 c121 e103 e161 | exact d1 c74 c121 e103 | exact d2 c74 c121 e103 | (exfalso; omega)
              · try have e161 := bIe c161
                refine VW.aload_n (pc' := 165) d_Model_combines_164 rfl rfl ?_
                refine VW.iload (pc' := 167) d_Model_combines_165 rfl rfl ?_
                refine VW.iload (pc' := 169) d_Model_combines_167 rfl rfl ?_
                refine VW.iload (pc' := 171) d_Model_combines_169 rfl rfl ?_
                refine VW.imul (pc' := 172) d_Model_combines_171 rfl (by omega) ?_
                refine VW.iadd (pc' := 173) d_Model_combines_172 rfl (by omega) ?_
                refine VW.iload_n (pc' := 174) d_Model_combines_173 rfl rfl ?_
                refine VW.iload (pc' := 176) d_Model_combines_174 rfl rfl ?_
                refine VW.iload (pc' := 178) d_Model_combines_176 rfl rfl ?_
                refine VW.imul (pc' := 179) d_Model_combines_178 rfl (by omega) ?_
                refine VW.iadd (pc' := 180) d_Model_combines_179 rfl (by omega) ?_
                refine VW.iload (pc' := 182) d_Model_combines_180 rfl rfl ?_
                refine VW.iconst (pc' := 183) d_Model_combines_182 rfl (by decide) ?_
                refine VW.iconst (pc' := 184) d_Model_combines_183 rfl (by decide) ?_
                refine VW.cV (ci := 11) (T := T11) (N := 94) (pc' := 187) d_Model_combines_184 rfl mv_Model_lays lk_Model_457 rfl (hM.k rfl) rfl rfl rfl (Nat.le_refl _) (Nat.le_refl _) (sp_Model_lays hM (by omega) (by omega) (by omega) (fun _ => ⟨by omega, by omega⟩) (fun y => absurd rfl y)) rfl rfl ?_
                refine VW.iinc (pc' := 190) d_Model_combines_187 rfl rfl rfl (by omega) ?_
                refine VW.iinc (pc' := 193) d_Model_combines_190 rfl rfl rfl (by omega) ?_
                refine VW.goto (pc' := 57) d_Model_combines_193 rfl ?_
                refine VW.pick [0, 1, 2, 3, 4, 5, 6, 7, 8] ?_
                first | exact nN1 e161 | exact c0 c74 e161 | exact c1 c121 e103 e161 | exact c2 c74 c121 e103 e161 | exact d1 c74 c121 e103 | exact d2 c74 c121 e103 | (exfalso; omega)
            · refine VW.iconst (pc' := 125) d_Model_combines_124 rfl (by decide) ?_
              refine VW.goto (pc' := 129) d_Model_combines_125 rfl ?_
              refine VW.icmp_ne (tgt := 136) (pc' := 132) d_Model_combines_129 rfl rfl (fun _ => ?_) (fun c129 => absurd c129 (by decide))
              refine VW.iconst (pc' := 137) d_Model_combines_136 rfl (by decide) ?_
              refine VW.istore (pc' := 139) d_Model_combines_137 rfl rfl ?_
              refine VW.iload (pc' := 141) d_Model_combines_139 rfl rfl ?_
              refine VW.if_eq (tgt := 190) (pc' := 144) d_Model_combines_141 rfl rfl (fun _ => ?_) (fun c141 => absurd c141 (by decide))
              refine VW.iinc (pc' := 193) d_Model_combines_190 rfl rfl rfl (by omega) ?_
              refine VW.goto (pc' := 57) d_Model_combines_193 rfl ?_
              refine VW.pick [0, 1, 2, 3, 4, 5, 6, 7, 8] ?_
              first | exact nN1 e161 | exact c0 c74 e161 | exact c1 c121 e103 e161 | exact c2 c74 c121 e103 e161 | exact d1 c74 c121 e103 | exact d2 c74 c121 e103 | (exfalso; omega)
        · try have e103 := bIn c103
          refine VW.iconst (pc' := 107) d_Model_combines_106 rfl (by decide) ?_
          refine VW.goto (pc' := 111) d_Model_combines_107 rfl ?_
          refine VW.istore (pc' := 113) d_Model_combines_111 rfl rfl ?_
          refine VW.iload_n (pc' := 114) d_Model_combines_113 rfl rfl ?_
          refine VW.if_eq (tgt := 132) (pc' := 117) d_Model_combines_114 rfl rfl (fun c114 => ?_) (fun c114 => ?_)
          · try have e114 := bIe c114
            refine VW.iconst (pc' := 133) d_Model_combines_132 rfl (by decide) ?_
            refine VW.goto (pc' := 137) d_Model_combines_133 rfl ?_
            refine VW.istore (pc' := 139) d_Model_combines_137 rfl rfl ?_
            refine VW.iload (pc' := 141) d_Model_combines_139 rfl rfl ?_
            refine VW.if_eq (tgt := 190) (pc' := 144) d_Model_combines_141 rfl rfl (fun c141 => absurd c141 (by decide)) (fun _ => ?_)
            refine VW.aload_n (pc' := 145) d_Model_combines_144 rfl rfl ?_
            refine VW.iload (pc' := 147) d_Model_combines_145 rfl rfl ?_
            refine VW.iload (pc' := 149) d_Model_combines_147 rfl rfl ?_
            refine VW.iload (pc' := 151) d_Model_combines_149 rfl rfl ?_
            refine VW.iload_n (pc' := 152) d_Model_combines_151 rfl rfl ?_
            refine VW.iload (pc' := 154) d_Model_combines_152 rfl rfl ?_
            refine VW.iload (pc' := 156) d_Model_combines_154 rfl rfl ?_
            refine VW.imul (pc' := 157) d_Model_combines_156 rfl (by omega) ?_
            refine VW.iadd (pc' := 158) d_Model_combines_157 rfl (by omega) ?_
            refine VW.cV (ci := 11) (T := T11) (N := 94) (pc' := 161) d_Model_combines_158 rfl mv_Model_hasRow lk_Model_460 rfl (hM.k rfl) rfl rfl rfl (Nat.le_refl _) (Nat.le_refl _) (hasM _ (by omega)) rfl rfl ?_
            refine VW.if_ne (tgt := 190) (pc' := 164) d_Model_combines_161 rfl rfl (fun c161 => ?_) (fun c161 => ?_)
            · try have e161 := bIn c161
              refine VW.iinc (pc' := 193) d_Model_combines_190 rfl rfl rfl (by omega) ?_
              refine VW.goto (pc' := 57) d_Model_combines_193 rfl ?_
              refine VW.pick [0, 1, 2, 3, 4, 5, 6, 7, 8] ?_
              first | exact nN1 e161 | exact c0 c74 e161 | exact c1 c121 e103 e161 | exact c2 c74 c121 e103 e161 | exact d1 c74 c121 e103 | exact d2 c74 c121 e103 | (exfalso; omega)
            · try have e161 := bIe c161
              refine VW.aload_n (pc' := 165) d_Model_combines_164 rfl rfl ?_
              refine VW.iload (pc' := 167) d_Model_combines_165 rfl rfl ?_
              refine VW.iload (pc' := 169) d_Model_combines_167 rfl rfl ?_
              refine VW.iload (pc' := 171) d_Model_combines_169 rfl rfl ?_
              refine VW.imul (pc' := 172) d_Model_combines_171 rfl (by omega) ?_
              refine VW.iadd (pc' := 173) d_Model_combines_172 rfl (by omega) ?_
              refine VW.iload_n (pc' := 174) d_Model_combines_173 rfl rfl ?_
              refine VW.iload (pc' := 176) d_Model_combines_174 rfl rfl ?_
              refine VW.iload (pc' := 178) d_Model_combines_176 rfl rfl ?_
              refine VW.imul (pc' := 179) d_Model_combines_178 rfl (by omega) ?_
              refine VW.iadd (pc' := 180) d_Model_combines_179 rfl (by omega) ?_
              refine VW.iload (pc' := 182) d_Model_combines_180 rfl rfl ?_
              refine VW.iconst (pc' := 183) d_Model_combines_182 rfl (by decide) ?_
              refine VW.iconst (pc' := 184) d_Model_combines_183 rfl (by decide) ?_
              refine VW.cV (ci := 11) (T := T11) (N := 94) (pc' := 187) d_Model_combines_184 rfl mv_Model_lays lk_Model_457 rfl (hM.k rfl) rfl rfl rfl (Nat.le_refl _) (Nat.le_refl _) (sp_Model_lays hM (by omega) (by omega) (by omega) (fun _ => ⟨by omega, by omega⟩) (fun y => absurd rfl y)) rfl rfl ?_
              refine VW.iinc (pc' := 190) d_Model_combines_187 rfl rfl rfl (by omega) ?_
              refine VW.iinc (pc' := 193) d_Model_combines_190 rfl rfl rfl (by omega) ?_
              refine VW.goto (pc' := 57) d_Model_combines_193 rfl ?_
              refine VW.pick [0, 1, 2, 3, 4, 5, 6, 7, 8] ?_
              first | exact nN1 e161 | exact c0 c74 e161 | exact c1 c121 e103 e161 | exact c2 c74 c121 e103 e161 | exact d1 c74 c121 e103 | exact d2 c74 c121 e103 | (exfalso; omega)
          · try have e114 := bIn c114
            refine VW.iload (pc' := 119) d_Model_combines_117 rfl rfl ?_
            refine VW.iload_n (pc' := 120) d_Model_combines_119 rfl rfl ?_
            refine VW.iconst (pc' := 121) d_Model_combines_120 rfl (by decide) ?_
            refine VW.icmp_ne (tgt := 128) (pc' := 124) d_Model_combines_121 rfl rfl (fun c121 => ?_) (fun c121 => ?_)
            · refine VW.iconst (pc' := 129) d_Model_combines_128 rfl (by decide) ?_
              refine VW.icmp_ne (tgt := 136) (pc' := 132) d_Model_combines_129 rfl rfl (fun _ => ?_) (fun c129 => absurd c129 (by decide))
              refine VW.iconst (pc' := 137) d_Model_combines_136 rfl (by decide) ?_
              refine VW.istore (pc' := 139) d_Model_combines_137 rfl rfl ?_
              refine VW.iload (pc' := 141) d_Model_combines_139 rfl rfl ?_
              refine VW.if_eq (tgt := 190) (pc' := 144) d_Model_combines_141 rfl rfl (fun _ => ?_) (fun c141 => absurd c141 (by decide))
              refine VW.iinc (pc' := 193) d_Model_combines_190 rfl rfl rfl (by omega) ?_
              refine VW.goto (pc' := 57) d_Model_combines_193 rfl ?_
              refine VW.pick [0, 1, 2, 3, 4, 5, 6, 7, 8] ?_
              first | exact nN1 e161 | exact c0 c74 e161 | exact c1 c121 e103 e161 | exact c2 c74 c121 e103 e161 | exact d1 c74 c121 e103 | exact d2 c74 c121 e103 | (exfalso; omega)
            · refine VW.iconst (pc' := 125) d_Model_combines_124 rfl (by decide) ?_
              refine VW.goto (pc' := 129) d_Model_combines_125 rfl ?_
              refine VW.icmp_ne (tgt := 136) (pc' := 132) d_Model_combines_129 rfl rfl (fun c129 => absurd c129 (by decide)) (fun _ => ?_)
              refine VW.iconst (pc' := 133) d_Model_combines_132 rfl (by decide) ?_
              refine VW.goto (pc' := 137) d_Model_combines_133 rfl ?_
              refine VW.istore (pc' := 139) d_Model_combines_137 rfl rfl ?_
              refine VW.iload (pc' := 141) d_Model_combines_139 rfl rfl ?_
              refine VW.if_eq (tgt := 190) (pc' := 144) d_Model_combines_141 rfl rfl (fun c141 => absurd c141 (by decide)) (fun _ => ?_)
              refine VW.aload_n (pc' := 145) d_Model_combines_144 rfl rfl ?_
              refine VW.iload (pc' := 147) d_Model_combines_145 rfl rfl ?_
              refine VW.iload (pc' := 149) d_Model_combines_147 rfl rfl ?_
              refine VW.iload (pc' := 151) d_Model_combines_149 rfl rfl ?_
              refine VW.iload_n (pc' := 152) d_Model_combines_151 rfl rfl ?_
              refine VW.iload (pc' := 154) d_Model_combines_152 rfl rfl ?_
              refine VW.iload (pc' := 156) d_Model_combines_154 rfl rfl ?_
              refine VW.imul (pc' := 157) d_Model_combines_156 rfl (by omega) ?_
              refine VW.iadd (pc' := 158) d_Model_combines_157 rfl (by omega) ?_
              refine VW.cV (ci := 11) (T := T11) (N := 94) (pc' := 161) d_Model_combines_158 rfl mv_Model_hasRow lk_Model_460 rfl (hM.k rfl) rfl rfl rfl (Nat.le_refl _) (Nat.le_refl _) (hasM _ (by omega)) rfl rfl ?_
              refine VW.if_ne (tgt := 190) (pc' := 164) d_Model_combines_161 rfl rfl (fun c161 => ?_) (fun c161 => ?_)
              · try have e161 := bIn c161
                refine VW.iinc (pc' := 193) d_Model_combines_190 rfl rfl rfl (by omega) ?_
                refine VW.goto (pc' := 57) d_Model_combines_193 rfl ?_
                refine VW.pick [0, 1, 2, 3, 4, 5, 6, 7, 8] ?_
                first | exact nN1 e161 | exact c0 c74 e161 | exact c1 c121 e103 e161 | exact c2 c74 c121 e103 e161 | exact d1 c74 c121 e103 | exact d2 c74 c121 e103 | (exfalso; omega)
              · try have e161 := bIe c161
                refine VW.aload_n (pc' := 165) d_Model_combines_164 rfl rfl ?_
                refine VW.iload (pc' := 167) d_Model_combines_165 rfl rfl ?_
                refine VW.iload (pc' := 169) d_Model_combines_167 rfl rfl ?_
                refine VW.iload (pc' := 171) d_Model_combines_169 rfl rfl ?_
                refine VW.imul (pc' := 172) d_Model_combines_171 rfl (by omega) ?_
                refine VW.iadd (pc' := 173) d_Model_combines_172 rfl (by omega) ?_
                refine VW.iload_n (pc' := 174) d_Model_combines_173 rfl rfl ?_
                refine VW.iload (pc' := 176) d_Model_combines_174 rfl rfl ?_
                refine VW.iload (pc' := 178) d_Model_combines_176 rfl rfl ?_
                refine VW.imul (pc' := 179) d_Model_combines_178 rfl (by omega) ?_
                refine VW.iadd (pc' := 180) d_Model_combines_179 rfl (by omega) ?_
                refine VW.iload (pc' := 182) d_Model_combines_180 rfl rfl ?_
                refine VW.iconst (pc' := 183) d_Model_combines_182 rfl (by decide) ?_
                refine VW.iconst (pc' := 184) d_Model_combines_183 rfl (by decide) ?_
                refine VW.cV (ci := 11) (T := T11) (N := 94) (pc' := 187) d_Model_combines_184 rfl mv_Model_lays lk_Model_457 rfl (hM.k rfl) rfl rfl rfl (Nat.le_refl _) (Nat.le_refl _) (sp_Model_lays hM (by omega) (by omega) (by omega) (fun _ => ⟨by omega, by omega⟩) (fun y => absurd rfl y)) rfl rfl ?_
                refine VW.iinc (pc' := 190) d_Model_combines_187 rfl rfl rfl (by omega) ?_
                refine VW.iinc (pc' := 193) d_Model_combines_190 rfl rfl rfl (by omega) ?_
                refine VW.goto (pc' := 57) d_Model_combines_193 rfl ?_
                refine VW.pick [0, 1, 2, 3, 4, 5, 6, 7, 8] ?_
                first | exact nN1 e161 | exact c0 c74 e161 | exact c1 c121 e103 e161 | exact c2 c74 c121 e103 e161 | exact d1 c74 c121 e103 | exact d2 c74 c121 e103 | (exfalso; omega)
theorem sp_Model_combines {x r a b : Int} {w n1 n2 : Nat} (hM : MW K P) (hx : 0 ≤ x ∧ x < 252) (hr : I 100 71 = r + 2) (h0 : 0 ≤ r ∧ r < 10) (hw2 : I 274 (r + 1) = w) (hn1 : I 273 r = n1) (hn2 : I 273 (r + 1) = n2) (ha : I 272 r = a) (hb : I 272 (r + 1) = b) (hp : 0 ≤ a ∧ b = a + (w : Int) * (n1 : Int) ∧ b + (w : Int) * (n2 : Int) ≤ 600000) (hW : w ≤ 10) (hN : n1 ≤ 512 ∧ n2 ≤ 512) (hJ : (cmbL (I 257 x) (seg I 270 a w n1) (seg I 270 b w n2)).length ≤ 1000) : Sp m_Model_combines false (rmv 1 27) (exU K P J (.inl none) (fun I' => (I' 100 71 = r + 1 ∧ I' 273 r = (cmbL (I 257 x) (seg I 270 a w n1) (seg I 270 b w n2)).length ∧ I' 274 r = w ∧ seg I' 270 a w (cmbL (I 257 x) (seg I 270 a w n1) (seg I 270 b w n2)).length = (cmbL (I 257 x) (seg I 270 a w n1) (seg I 270 b w n2))) ∧ ∀ (o : Nat) (q : Int), ¬ (o = 270 ∧ a ≤ q) → ¬ (o = 273 ∧ q = r) → ¬ (o = 274 ∧ q = r) → ¬ (o = 100 ∧ q = 71) → I' o q = I o q)) K P J I [vR (some 100), vI x] := by
  refine Sp.ofV (by decide) (Or.inr rfl) rfl ?_
  have q1 : (w : Int) * (n1 : Int) ≤ 10 * 512 := mulUp (by omega) (by omega) (by omega) (by omega)
  have q2 : (w : Int) * (n2 : Int) ≤ 10 * 512 := mulUp (by omega) (by omega) (by omega) (by omega)
  have q10 := mulNN (w := (w : Int)) (k := (n1 : Int)) (by omega) (by omega)
  have q20 := mulNN (w := (w : Int)) (k := (n2 : Int)) (by omega) (by omega)
  obtain ⟨m, hm⟩ : ∃ m, m = b + (w : Int) * (n2 : Int) := ⟨_, rfl⟩
  have left := cb_left (J := J) hM hx hr h0 hw2 hn1 hn2 ha hb hp hW hN hJ hm
  have tp : mTop I = m := by
    unfold mTop
    rw [if_neg (by omega), hr, show r + 2 - 1 = r + 1 by omega, hb, hn2, hw2, hm, Int.mul_comm]
  have tp1 := sp_Model_top (K := K) (P := P) (J := J) (I := I) hM (by omega) (fun _ => by rw [hr, show r + 2 - 1 = r + 1 by omega, hb, hn2, hw2, Int.mul_comm]; omega)
  rw [tp] at tp1
  have f2 : I 274 (r + 2 - 1) = w := by rw [show r + 2 - 1 = r + 1 by omega]; exact hw2
  have f3 : I 272 (r + 2 - 2) = a := by rw [show r + 2 - 2 = r by omega]; exact ha
  have f4 : I 272 (r + 2 - 1) = b := by rw [show r + 2 - 1 = r + 1 by omega]; exact hb
  have l0 := left n1 0 0 I (by omega) ⟨rfl, fun o q _ => rfl⟩ (by omega)
  clear left hJ
  refine VW.aload_n (pc' := 1) d_Model_combines_0 rfl rfl ?_
  refine VW.gP (ci := 11) (T := T11) (N := 94) (k := 57) (k' := 57) (pc' := 4) d_Model_combines_1 rfl lk_Model_147 in11 rfl rfl rfl rfl (hM.k rfl) (hM.p (r := some 257) 57 rfl rfl) ?_
  refine VW.iload_n (pc' := 5) d_Model_combines_4 rfl rfl ?_
  refine VW.ild (pc' := 6) d_Model_combines_5 rfl (hM.k rfl) (by omega) (by omega) (by first | exact hr | exact f2 | exact f3 | exact f4 | rfl) ?_
  refine VW.istore_n (pc' := 7) d_Model_combines_6 rfl rfl ?_
  refine VW.aload_n (pc' := 8) d_Model_combines_7 rfl rfl ?_
  refine VW.gP (ci := 11) (T := T11) (N := 94) (k := 72) (k' := 72) (pc' := 11) d_Model_combines_8 rfl lk_Model_181 in11 rfl rfl rfl rfl (hM.k rfl) (hM.p (r := some 272) 72 rfl rfl) ?_
  refine VW.aload_n (pc' := 12) d_Model_combines_11 rfl rfl ?_
  refine VW.gI (ci := 11) (T := T11) (N := 94) (k := 71) (k' := 71) (pc' := 15) d_Model_combines_12 rfl lk_Model_434 in11 rfl rfl rfl rfl (hM.k rfl) (by first | exact hr | exact f2 | exact f3 | exact f4 | rfl) ?_
  refine VW.iconst (pc' := 16) d_Model_combines_15 rfl (by decide) ?_
  refine VW.isub (pc' := 17) d_Model_combines_16 rfl (by omega) ?_
  refine VW.ild (pc' := 18) d_Model_combines_17 rfl (hM.k rfl) (by omega) (by omega) (by first | exact hr | exact f2 | exact f3 | exact f4 | rfl) ?_
  refine VW.istore_n (pc' := 19) d_Model_combines_18 rfl rfl ?_
  refine VW.aload_n (pc' := 20) d_Model_combines_19 rfl rfl ?_
  refine VW.gP (ci := 11) (T := T11) (N := 94) (k := 72) (k' := 72) (pc' := 23) d_Model_combines_20 rfl lk_Model_181 in11 rfl rfl rfl rfl (hM.k rfl) (hM.p (r := some 272) 72 rfl rfl) ?_
  refine VW.aload_n (pc' := 24) d_Model_combines_23 rfl rfl ?_
  refine VW.gI (ci := 11) (T := T11) (N := 94) (k := 71) (k' := 71) (pc' := 27) d_Model_combines_24 rfl lk_Model_434 in11 rfl rfl rfl rfl (hM.k rfl) (by first | exact hr | exact f2 | exact f3 | exact f4 | rfl) ?_
  refine VW.iconst (pc' := 28) d_Model_combines_27 rfl (by decide) ?_
  refine VW.isub (pc' := 29) d_Model_combines_28 rfl (by omega) ?_
  refine VW.ild (pc' := 30) d_Model_combines_29 rfl (hM.k rfl) (by omega) (by omega) (by first | exact hr | exact f2 | exact f3 | exact f4 | rfl) ?_
  refine VW.istore (pc' := 32) d_Model_combines_30 rfl rfl ?_
  refine VW.aload_n (pc' := 33) d_Model_combines_32 rfl rfl ?_
  refine VW.gP (ci := 11) (T := T11) (N := 94) (k := 74) (k' := 74) (pc' := 36) d_Model_combines_33 rfl lk_Model_187 in11 rfl rfl rfl rfl (hM.k rfl) (hM.p (r := some 274) 74 rfl rfl) ?_
  refine VW.aload_n (pc' := 37) d_Model_combines_36 rfl rfl ?_
  refine VW.gI (ci := 11) (T := T11) (N := 94) (k := 71) (k' := 71) (pc' := 40) d_Model_combines_37 rfl lk_Model_434 in11 rfl rfl rfl rfl (hM.k rfl) (by first | exact hr | exact f2 | exact f3 | exact f4 | rfl) ?_
  refine VW.iconst (pc' := 41) d_Model_combines_40 rfl (by decide) ?_
  refine VW.isub (pc' := 42) d_Model_combines_41 rfl (by omega) ?_
  refine VW.ild (pc' := 43) d_Model_combines_42 rfl (hM.k rfl) (by omega) (by omega) (by first | exact hr | exact f2 | exact f3 | exact f4 | rfl) ?_
  refine VW.istore (pc' := 45) d_Model_combines_43 rfl rfl ?_
  refine VW.aload_n (pc' := 46) d_Model_combines_45 rfl rfl ?_
  refine VW.cV (ci := 11) (T := T11) (N := 94) (pc' := 49) d_Model_combines_46 rfl mv_Model_top lk_Model_437 rfl (hM.k rfl) rfl rfl rfl (Nat.le_refl _) (Nat.le_refl _) (tp1) rfl rfl ?_
  refine VW.istore (pc' := 51) d_Model_combines_49 rfl rfl ?_
  refine VW.iconst (pc' := 52) d_Model_combines_51 rfl (by decide) ?_
  refine VW.istore (pc' := 54) d_Model_combines_52 rfl rfl ?_
  refine VW.iconst (pc' := 55) d_Model_combines_54 rfl (by decide) ?_
  refine VW.istore (pc' := 57) d_Model_combines_55 rfl rfl ?_
  refine VW.pick [0, 1, 2, 3, 4, 5, 6, 7, 8] ?_
  exact l0
end
