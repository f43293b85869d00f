section
variable {K : KT} {P : PT} {J I : IT}
/-- a result of the reference, changed: rows L of width w at b, and whether it failed -/
def UnP (I I' : IT) (r b : Int) (w : Nat) (L : List (List Int)) (fl : Prop) : Prop := (I' 273 r = L.length ∧ I' 274 r = w ∧ seg I' 270 b w L.length = L) ∧ I' 100 75 = bI (I 100 75 = 1 ∨ fl) ∧ (∀ (o : Nat) (k : Int), ¬ (o = 270 ∧ b ≤ k) → ¬ (o = 273 ∧ k = r) → ¬ (o = 274 ∧ k = r) → ¬ (o = 100 ∧ k = 75) → I' o k = I o k)
/-- filtering: the first k rows are done, m of them stay -/
def FI (I T : IT) (b : Int) (w : Nat) (p F : List Int → Prop) (k m : Nat) : Prop :=
  seg T 270 b w m = flt p (seg I 270 b w k) ∧ (∀ q, b + (w : Int) * (k : Int) ≤ q → T 270 q = I 270 q) ∧ T 100 75 = bI (I 100 75 = 1 ∨ ∃ r ∈ seg I 270 b w k, F r) ∧ (∀ (o : Nat) (q : Int), ¬ (o = 270 ∧ b ≤ q) → ¬ (o = 100 ∧ q = 75) → T o q = I o q) ∧ m ≤ k
theorem FI.fl {T : IT} {b : Int} {w k m : Nat} {p F : List Int → Prop} (h : FI I T b w p F k m) : bI (T 100 75 = 1 ∨ F (rowAt I 270 (b + (w : Int) * (k : Int)) w)) = bI (I 100 75 = 1 ∨ ∃ r ∈ seg I 270 b w (k + 1), F r) := by
  rw [h.2.2.1]
  apply bIc
  rw [seg_succ]
  constructor
  · rintro (z | z)
    · rcases Classical.em (I 100 75 = 1 ∨ ∃ r ∈ seg I 270 b w k, F r) with y | y
      · rcases y with y | ⟨r, h1, h2⟩
        · exact Or.inl y
        · exact Or.inr ⟨r, List.mem_append_left _ h1, h2⟩
      · rw [bI0 y] at z; exact absurd z (by decide)
    · exact Or.inr ⟨_, List.mem_append_right _ (List.mem_singleton.2 rfl), z⟩
  · rintro (z | ⟨r, h1, h2⟩)
    · exact Or.inl (bI1 (Or.inl z))
    · rcases List.mem_append.1 h1 with h3 | h3
      · exact Or.inl (bI1 (Or.inr ⟨r, h3, h2⟩))
      · rw [List.mem_singleton.1 h3] at h2; exact Or.inr h2
theorem FI.no {T : IT} {b : Int} {w k m : Nat} {p F : List Int → Prop} (h : FI I T b w p F k m) (hp : ¬ p (rowAt I 270 (b + (w : Int) * (k : Int)) w)) : FI I (up2 T 100 75 (bI (T 100 75 = 1 ∨ F (rowAt I 270 (b + (w : Int) * (k : Int)) w)))) b w p F (k + 1) m := by
  refine ⟨?_, fun q hq => ?_, ?_, fun o q h1 h2 => ?_, by have := h.2.2.2.2; omega⟩
  · rw [seg_succ, flt_no hp, ← h.1]
    exact seg_congr (fun q _ _ => up2_o _ _ _ _ (by decide))
  · rw [up2_o _ _ _ _ (by decide)]
    refine h.2.1 q ?_
    have e : (w : Int) * ((k + 1 : Nat) : Int) = (w : Int) * (k : Int) + w := by rw [show ((k + 1 : Nat) : Int) = (k : Int) + 1 by omega, Int.mul_add, Int.mul_one]
    rw [e] at hq
    omega
  · rw [up2_eq]; exact h.fl
  · rw [show up2 T 100 75 (bI (T 100 75 = 1 ∨ F (rowAt I 270 (b + (w : Int) * (k : Int)) w))) o q = T o q from if_neg h2]; exact h.2.2.2.1 o q h1 h2
theorem FI.yes {T : IT} {b : Int} {w k m : Nat} {p F : List Int → Prop} (h : FI I T b w p F k m) (hp : p (rowAt I 270 (b + (w : Int) * (k : Int)) w)) : FI I (cpyI (up2 T 100 75 (bI (T 100 75 = 1 ∨ F (rowAt I 270 (b + (w : Int) * (k : Int)) w)))) 270 (b + (w : Int) * (k : Int)) 270 (b + (w : Int) * (m : Int)) w) b w p F (k + 1) (m + 1) := by
  have hmk : (w : Int) * (m : Int) ≤ (w : Int) * (k : Int) := mulLe (by omega) (by have := h.2.2.2.2; omega)
  have hm0 : 0 ≤ (w : Int) * (m : Int) := mulNN (by omega) (by omega)
  refine ⟨?_, fun q hq => ?_, ?_, fun o q h1 h2 => ?_, by have := h.2.2.2.2; omega⟩
  · rw [seg_succ, seg_succ, flt_yes hp, ← h.1, rowAt_cpy]
    congr 1
    · exact seg_congr (fun q a c => by rw [cpyI_out (Or.inr (Or.inl (by omega)))]; exact up2_o _ _ _ _ (by decide))
    · congr 1
      exact rowAt_congr (fun c a d => by rw [up2_o _ _ _ _ (by decide)]; exact h.2.1 _ (by omega))
  · have e : (w : Int) * ((k + 1 : Nat) : Int) = (w : Int) * (k : Int) + w := by rw [show ((k + 1 : Nat) : Int) = (k : Int) + 1 by omega, Int.mul_add, Int.mul_one]
    rw [e] at hq
    rw [cpyI_out (Or.inr (Or.inr (by omega))), up2_o _ _ _ _ (by decide)]
    exact h.2.1 q (by omega)
  · rw [cpyI_out (Or.inl (by decide)), up2_eq]; exact h.fl
  · rw [cpyI_out (by omega), show up2 T 100 75 (bI (T 100 75 = 1 ∨ F (rowAt I 270 (b + (w : Int) * (k : Int)) w))) o q = T o q from if_neg h2]; exact h.2.2.2.1 o q h1 h2
theorem sp_Model_filters {x r b : Int} {w n : Nat} (hM : MW K P) (hx : 0 ≤ x ∧ x < 252) (hr : I 100 71 = r + 1) (h0 : 0 ≤ r ∧ r < 12) (hw : I 274 r = w) (hn : I 273 r = n) (hb : I 272 r = b) (hp : 0 ≤ b ∧ b + (w : Int) * (n : Int) ≤ 700000) (hW : w ≤ 10) (hN : n ≤ 512) (hc : opIn (I 256 x) (I 257 x) (I 258 x) (I 259 x) w) (hf : I 100 75 = 0 ∨ I 100 75 = 1) : Sp m_Model_filters false (rmv 2 47) (exU K P J (.inl none) (fun I' => UnP I I' r b w (flt (stayP (I 256 x) (I 257 x) (I 258 x) (I 259 x) (I 260 x)) (seg I 270 b w n)) (∃ z ∈ seg I 270 b w n, (stayF (I 256 x) (I 257 x) (I 258 x)) z))) K P J I [vR (some 100), vI x] := by
  refine Sp.ofV (by decide) (Or.inr rfl) rfl ?_
  have hwn : (w : Int) * (n : Int) ≤ 10 * 512 := mulUp (by omega) (by omega) (by omega) (by omega)
  have e71 : I 100 71 - 1 = r := by omega
  have loop : ∀ (l k m : Nat) (T : IT), k + l = n → FI I T b w (stayP (I 256 x) (I 257 x) (I 258 x) (I 259 x) (I 260 x)) (stayF (I 256 x) (I 257 x) (I 258 x)) k m → VW m_Model_filters false (rmv 2 47) (exU K P J (.inl none) (fun I' => UnP I I' r b w (flt (stayP (I 256 x) (I 257 x) (I 258 x) (I 259 x) (I 260 x)) (seg I 270 b w n)) (∃ z ∈ seg I 270 b w n, (stayF (I 256 x) (I 257 x) (I 258 x)) z))) K P J T 0 0 30 [(0, vR (some 100)), (1, vI x), (2, vI (w : Int)), (3, vI (m : Int)), (4, vI b), (5, vI (k : Int))] [] := by
    intro l
    induction l with
    | zero =>
      intro k m T hk hT
      have ek : k = n := by omega
      subst ek
      have g71 := hT.2.2.2.1 100 71 (by omega) (by omega)
      have g273 : T 273 (r + 1 - 1) = k := by rw [show r + 1 - 1 = r by omega, hT.2.2.2.1 273 r (by omega) (by omega)]; exact hn
      rw [hr] at g71
      have mk := hT.2.2.2.2
      have fin : UnP I (up2 T 273 (r + 1 - 1) m) r b w (flt (stayP (I 256 x) (I 257 x) (I 258 x) (I 259 x) (I 260 x)) (seg I 270 b w k)) (∃ z ∈ seg I 270 b w k, (stayF (I 256 x) (I 257 x) (I 258 x)) z) := by
        have el : (flt (stayP (I 256 x) (I 257 x) (I 258 x) (I 259 x) (I 260 x)) (seg I 270 b w k)).length = m := by rw [← hT.1]; exact seg_len
        rw [show r + 1 - 1 = r by omega]
        refine ⟨⟨?_, ?_, ?_⟩, ?_, fun o q h1 h2 h3 h4 => ?_⟩
        · rw [up2_eq, el]
        · rw [up2_o _ _ _ _ (by decide), hT.2.2.2.1 274 r (by omega) (by omega)]; exact hw
        · rw [el]
          exact (seg_congr (fun q _ _ => up2_o _ _ _ _ (by decide))).trans hT.1
        · rw [up2_o _ _ _ _ (by decide)]; exact hT.2.2.1
        · rw [show up2 T 273 r (m : Int) o q = T o q from if_neg h2]; exact hT.2.2.2.1 o q h1 h4
      clear hT
      refine VW.iload (pc' := 32) d_Model_filters_30 rfl rfl ?_
      refine VW.aload_n (pc' := 33) d_Model_filters_32 rfl rfl ?_
      refine VW.gP (ci := 11) (T := T11) (N := 94) (k := 73) (k' := 73) (pc' := 36) d_Model_filters_33 rfl lk_Model_184 in11 rfl rfl rfl rfl (hM.k rfl) (hM.p (r := some 273) 73 rfl rfl) ?_
      refine VW.aload_n (pc' := 37) d_Model_filters_36 rfl rfl ?_
      refine VW.gI (ci := 11) (T := T11) (N := 94) (k := 71) (k' := 71) (pc' := 40) d_Model_filters_37 rfl lk_Model_434 in11 rfl rfl rfl rfl (hM.k rfl) (by first | exact g71 | exact g273 | rfl) ?_
      refine VW.iconst (pc' := 41) d_Model_filters_40 rfl (by decide) ?_
      refine VW.isub (pc' := 42) d_Model_filters_41 rfl (by omega) ?_
      refine VW.ild (pc' := 43) d_Model_filters_42 rfl (hM.k rfl) (by omega) (by omega) (by first | exact g71 | exact g273 | rfl) ?_
      refine VW.icmp_ge (tgt := 114) (pc' := 46) d_Model_filters_43 rfl rfl (fun c43 => ?_) (fun c43 => ?_)
      · refine VW.aload_n (pc' := 115) d_Model_filters_114 rfl rfl ?_
        refine VW.gP (ci := 11) (T := T11) (N := 94) (k := 73) (k' := 73) (pc' := 118) d_Model_filters_115 rfl lk_Model_184 in11 rfl rfl rfl rfl (hM.k rfl) (hM.p (r := some 273) 73 rfl rfl) ?_
        refine VW.aload_n (pc' := 119) d_Model_filters_118 rfl rfl ?_
        refine VW.gI (ci := 11) (T := T11) (N := 94) (k := 71) (k' := 71) (pc' := 122) d_Model_filters_119 rfl lk_Model_434 in11 rfl rfl rfl rfl (hM.k rfl) (by first | exact g71 | exact g273 | rfl) ?_
        refine VW.iconst (pc' := 123) d_Model_filters_122 rfl (by decide) ?_
        refine VW.isub (pc' := 124) d_Model_filters_123 rfl (by omega) ?_
        refine VW.iload_n (pc' := 125) d_Model_filters_124 rfl rfl ?_
        refine VW.iast (pc' := 126) d_Model_filters_125 rfl (hM.k rfl) (by omega) (by omega) ?_
        exact VW.vret d_Model_filters_126 rfl (Nat.zero_le _) (Nat.zero_le _) (exU_mk fin)
      · exfalso; omega
    | succ l ih =>
      intro k m T hk hT
      have g71 := hT.2.2.2.1 100 71 (by omega) (by omega)
      have g273 : T 273 (r + 1 - 1) = n := by rw [show r + 1 - 1 = r by omega, hT.2.2.2.1 273 r (by omega) (by omega)]; exact hn
      rw [hr] at g71
      have mk := hT.2.2.2.2
      have gx : ∀ o, o ≠ 270 → o ≠ 100 → T o x = I o x := fun o h1 h2 => hT.2.2.2.1 o x (fun z => h1 z.1) (fun z => h2 z.1)
      have s1 := mulStep (w := (w : Int)) (k := (k : Int)) (n := (n : Int)) (by omega) (by omega)
      have s2 := mulLe (w := (w : Int)) (k := (m : Int)) (n := (k : Int)) (by omega) (by have := hT.2.2.2.2; omega)
      have s3 := mulNN (w := (w : Int)) (k := (m : Int)) (by omega) (by omega)
      have eR : rowAt T 270 (b + (w : Int) * (k : Int)) w = rowAt I 270 (b + (w : Int) * (k : Int)) w := rowAt_congr (fun c a d => hT.2.1 _ (by omega))
      have f01 : T 100 75 = 0 ∨ T 100 75 = 1 := by rw [hT.2.2.1]; exact bI_01 _
      have st : Sp m_Model_stays false (rmv 1 23) (ex K P J (up2 T 100 75 (bI (T 100 75 = 1 ∨ (stayF (I 256 x) (I 257 x) (I 258 x)) (rowAt I 270 (b + (w : Int) * (k : Int)) w)))) (.inl (some (vI (bI ((stayP (I 256 x) (I 257 x) (I 258 x) (I 259 x) (I 260 x)) (rowAt I 270 (b + (w : Int) * (k : Int)) w))))))) K P J T [vR (some 100), vI x, vI (b + (w : Int) * (k : Int))] := by
        have h := sp_Model_stays (K := K) (P := P) (J := J) (I := T) (x := x) (p := b + (w : Int) * (k : Int)) (w := w) hM hx ⟨by omega, by omega⟩ (by rw [gx 256 (by decide) (by decide), gx 257 (by decide) (by decide), gx 258 (by decide) (by decide), gx 259 (by decide) (by decide)]; exact hc) f01
        rw [eR, gx 256 (by decide) (by decide), gx 257 (by decide) (by decide), gx 258 (by decide) (by decide), gx 259 (by decide) (by decide), gx 260 (by decide) (by decide)] at h
        exact h
      have ihN := fun (z : ¬ (stayP (I 256 x) (I 257 x) (I 258 x) (I 259 x) (I 260 x)) (rowAt I 270 (b + (w : Int) * (k : Int)) w)) => ih (k + 1) m _ (by omega) (hT.no z)
      have ihY := fun (z : (stayP (I 256 x) (I 257 x) (I 258 x) (I 259 x) (I 260 x)) (rowAt I 270 (b + (w : Int) * (k : Int)) w)) => ih (k + 1) (m + 1) _ (by omega) (hT.yes z)
      have ek : ((k + 1 : Nat) : Int) = (k : Int) + 1 := by omega
      have em : ((m + 1 : Nat) : Int) = (m : Int) + 1 := by omega
      rw [ek] at ihN ihY
      rw [em] at ihY
      clear ih hT gx eR
      generalize bI (T 100 75 = 1 ∨ (stayF (I 256 x) (I 257 x) (I 258 x)) (rowAt I 270 (b + (w : Int) * (k : Int)) w)) = fl at *
      have copy : ∀ (j : Nat) (c : Int), c + j = w → 0 ≤ c → (stayP (I 256 x) (I 257 x) (I 258 x) (I 259 x) (I 260 x)) (rowAt I 270 (b + (w : Int) * (k : Int)) w) → VW m_Model_filters false (rmv 2 47) (exU K P J (.inl none) (fun I' => UnP I I' r b w (flt (stayP (I 256 x) (I 257 x) (I 258 x) (I 259 x) (I 260 x)) (seg I 270 b w n)) (∃ z ∈ seg I 270 b w n, (stayF (I 256 x) (I 257 x) (I 258 x)) z))) K P J (cpyI (up2 T 100 75 fl) 270 (b + (w : Int) * (k : Int)) 270 (b + (w : Int) * (m : Int)) c) 0 0 64 [(0, vR (some 100)), (1, vI x), (2, vI (w : Int)), (3, vI (m : Int)), (4, vI b), (5, vI (k : Int)), (6, vI c)] [] := by
        intro j
        induction j with
        | zero =>
          intro c hc2 hc3 hp3
          have ec : c = w := by omega
          subst ec
          have nx := ihY hp3
          clear ihN ihY st
          refine VW.iload (pc' := 66) d_Model_filters_64 rfl rfl ?_
          refine VW.iload_n (pc' := 67) d_Model_filters_66 rfl rfl ?_
          refine VW.icmp_ge (tgt := 105) (pc' := 70) d_Model_filters_67 rfl rfl (fun c67 => ?_) (fun c67 => ?_)
          · refine VW.iinc (pc' := 108) d_Model_filters_105 rfl rfl rfl (by omega) ?_
            refine VW.iinc (pc' := 111) d_Model_filters_108 rfl rfl rfl (by omega) ?_
            refine VW.goto (pc' := 30) d_Model_filters_111 rfl ?_
            refine VW.pick [0, 1, 2, 3, 4, 5] ?_
            exact nx
          · exfalso; omega
        | succ j ihc =>
          intro c hc2 hc3 hp3
          have e := cpyI_stepG (I := up2 T 100 75 fl) (s := 270) (a := 270) (A := b + (w : Int) * (k : Int)) (B := b + (w : Int) * (m : Int)) hc3 (cpyI_out (Or.inr (Or.inr (by omega))))
          have nx := ihc (c + 1) (by omega) (by omega) hp3
          rw [← e] at nx
          clear ihc ihN ihY st e
          refine VW.iload (pc' := 66) d_Model_filters_64 rfl rfl ?_
          refine VW.iload_n (pc' := 67) d_Model_filters_66 rfl rfl ?_
          refine VW.icmp_ge (tgt := 105) (pc' := 70) d_Model_filters_67 rfl rfl (fun c67 => ?_) (fun c67 => ?_)
          · exfalso; omega
          · refine VW.aload_n (pc' := 71) d_Model_filters_70 rfl rfl ?_
            refine VW.gP (ci := 11) (T := T11) (N := 94) (k := 70) (k' := 70) (pc' := 74) d_Model_filters_71 rfl lk_Model_178 in11 rfl rfl rfl rfl (hM.k rfl) (hM.p (r := some 270) 70 rfl rfl) ?_
            refine VW.iload (pc' := 76) d_Model_filters_74 rfl rfl ?_
            refine VW.iload_n (pc' := 77) d_Model_filters_76 rfl rfl ?_
            refine VW.iload_n (pc' := 78) d_Model_filters_77 rfl rfl ?_
            refine VW.imul (pc' := 79) d_Model_filters_78 rfl (by omega) ?_
            refine VW.iadd (pc' := 80) d_Model_filters_79 rfl (by omega) ?_
            refine VW.iload (pc' := 82) d_Model_filters_80 rfl rfl ?_
            refine VW.iadd (pc' := 83) d_Model_filters_82 rfl (by omega) ?_
            refine VW.aload_n (pc' := 84) d_Model_filters_83 rfl rfl ?_
            refine VW.gP (ci := 11) (T := T11) (N := 94) (k := 70) (k' := 70) (pc' := 87) d_Model_filters_84 rfl lk_Model_178 in11 rfl rfl rfl rfl (hM.k rfl) (hM.p (r := some 270) 70 rfl rfl) ?_
            refine VW.iload (pc' := 89) d_Model_filters_87 rfl rfl ?_
            refine VW.iload_n (pc' := 90) d_Model_filters_89 rfl rfl ?_
            refine VW.iload (pc' := 92) d_Model_filters_90 rfl rfl ?_
            refine VW.imul (pc' := 93) d_Model_filters_92 rfl (by omega) ?_
            refine VW.iadd (pc' := 94) d_Model_filters_93 rfl (by omega) ?_
            refine VW.iload (pc' := 96) d_Model_filters_94 rfl rfl ?_
            refine VW.iadd (pc' := 97) d_Model_filters_96 rfl (by omega) ?_
            refine VW.ild (pc' := 98) d_Model_filters_97 rfl (hM.k rfl) (by omega) (by omega) (by first | exact cpyI_out (Or.inr (Or.inr (by omega))) | rfl) ?_
            refine VW.iast (pc' := 99) d_Model_filters_98 rfl (hM.k rfl) (by omega) (by omega) ?_
            refine VW.iinc (pc' := 102) d_Model_filters_99 rfl rfl rfl (by omega) ?_
            refine VW.goto (pc' := 64) d_Model_filters_102 rfl ?_
            refine VW.nrm ?_
            exact nx
      have cp := fun z => copy w 0 (by omega) (by omega) z
      rw [cpyI_0] at cp
      clear copy ihY
      refine VW.iload (pc' := 32) d_Model_filters_30 rfl rfl ?_
      refine VW.aload_n (pc' := 33) d_Model_filters_32 rfl rfl ?_
      refine VW.gP (ci := 11) (T := T11) (N := 94) (k := 73) (k' := 73) (pc' := 36) d_Model_filters_33 rfl lk_Model_184 in11 rfl rfl rfl rfl (hM.k rfl) (hM.p (r := some 273) 73 rfl rfl) ?_
      refine VW.aload_n (pc' := 37) d_Model_filters_36 rfl rfl ?_
      refine VW.gI (ci := 11) (T := T11) (N := 94) (k := 71) (k' := 71) (pc' := 40) d_Model_filters_37 rfl lk_Model_434 in11 rfl rfl rfl rfl (hM.k rfl) (by first | exact g71 | exact g273 | rfl) ?_
      refine VW.iconst (pc' := 41) d_Model_filters_40 rfl (by decide) ?_
      refine VW.isub (pc' := 42) d_Model_filters_41 rfl (by omega) ?_
      refine VW.ild (pc' := 43) d_Model_filters_42 rfl (hM.k rfl) (by omega) (by omega) (by first | exact g71 | exact g273 | rfl) ?_
      refine VW.icmp_ge (tgt := 114) (pc' := 46) d_Model_filters_43 rfl rfl (fun c43 => ?_) (fun c43 => ?_)
      · exfalso; omega
      · refine VW.aload_n (pc' := 47) d_Model_filters_46 rfl rfl ?_
        refine VW.iload_n (pc' := 48) d_Model_filters_47 rfl rfl ?_
        refine VW.iload (pc' := 50) d_Model_filters_48 rfl rfl ?_
        refine VW.iload_n (pc' := 51) d_Model_filters_50 rfl rfl ?_
        refine VW.iload (pc' := 53) d_Model_filters_51 rfl rfl ?_
        refine VW.imul (pc' := 54) d_Model_filters_53 rfl (by omega) ?_
        refine VW.iadd (pc' := 55) d_Model_filters_54 rfl (by omega) ?_
        refine VW.cV (ci := 11) (T := T11) (N := 94) (pc' := 58) d_Model_filters_55 rfl mv_Model_stays lk_Model_444 rfl (hM.k rfl) rfl rfl rfl (Nat.le_refl _) (Nat.le_refl _) (st) rfl rfl ?_
        refine VW.if_eq (tgt := 108) (pc' := 61) d_Model_filters_58 rfl rfl (fun c58 => ?_) (fun c58 => ?_)
        · try have e58 := bIe c58
          refine VW.iinc (pc' := 111) d_Model_filters_108 rfl rfl rfl (by omega) ?_
          refine VW.goto (pc' := 30) d_Model_filters_111 rfl ?_
          refine VW.nrm ?_
          exact ihN e58
        · try have e58 := bIn c58
          refine VW.iconst (pc' := 62) d_Model_filters_61 rfl (by decide) ?_
          refine VW.istore (pc' := 64) d_Model_filters_62 rfl rfl ?_
          refine VW.nrm ?_
          exact cp e58
  have start : FI I I b w (stayP (I 256 x) (I 257 x) (I 258 x) (I 259 x) (I 260 x)) (stayF (I 256 x) (I 257 x) (I 258 x)) 0 0 := by
    refine ⟨rfl, fun q _ => rfl, ?_, fun o q _ _ => rfl, Nat.le_refl _⟩
    rcases hf with h | h
    · rw [h]; exact (bI0 (fun y => y.elim (fun q => by omega) (fun ⟨z, a, _⟩ => by cases a))).symm
    · rw [h]; exact (bI1 (Or.inl rfl)).symm
  have l := loop n 0 0 I (by omega) start
  have hw2 : I 274 (r + 1 - 1) = w := by rw [show r + 1 - 1 = r by omega]; exact hw
  have hb2 : I 272 (r + 1 - 1) = b := by rw [show r + 1 - 1 = r by omega]; exact hb
  clear loop start
  refine VW.aload_n (pc' := 1) d_Model_filters_0 rfl rfl ?_
  refine VW.gP (ci := 11) (T := T11) (N := 94) (k := 74) (k' := 74) (pc' := 4) d_Model_filters_1 rfl lk_Model_187 in11 rfl rfl rfl rfl (hM.k rfl) (hM.p (r := some 274) 74 rfl rfl) ?_
  refine VW.aload_n (pc' := 5) d_Model_filters_4 rfl rfl ?_
  refine VW.gI (ci := 11) (T := T11) (N := 94) (k := 71) (k' := 71) (pc' := 8) d_Model_filters_5 rfl lk_Model_434 in11 rfl rfl rfl rfl (hM.k rfl) (by first | exact hr | exact hw2 | exact hb2 | rfl) ?_
  refine VW.iconst (pc' := 9) d_Model_filters_8 rfl (by decide) ?_
  refine VW.isub (pc' := 10) d_Model_filters_9 rfl (by omega) ?_
  refine VW.ild (pc' := 11) d_Model_filters_10 rfl (hM.k rfl) (by omega) (by omega) (by first | exact hr | exact hw2 | exact hb2 | rfl) ?_
  refine VW.istore_n (pc' := 12) d_Model_filters_11 rfl rfl ?_
  refine VW.iconst (pc' := 13) d_Model_filters_12 rfl (by decide) ?_
  refine VW.istore_n (pc' := 14) d_Model_filters_13 rfl rfl ?_
  refine VW.aload_n (pc' := 15) d_Model_filters_14 rfl rfl ?_
  refine VW.gP (ci := 11) (T := T11) (N := 94) (k := 72) (k' := 72) (pc' := 18) d_Model_filters_15 rfl lk_Model_181 in11 rfl rfl rfl rfl (hM.k rfl) (hM.p (r := some 272) 72 rfl rfl) ?_
  refine VW.aload_n (pc' := 19) d_Model_filters_18 rfl rfl ?_
  refine VW.gI (ci := 11) (T := T11) (N := 94) (k := 71) (k' := 71) (pc' := 22) d_Model_filters_19 rfl lk_Model_434 in11 rfl rfl rfl rfl (hM.k rfl) (by first | exact hr | exact hw2 | exact hb2 | rfl) ?_
  refine VW.iconst (pc' := 23) d_Model_filters_22 rfl (by decide) ?_
  refine VW.isub (pc' := 24) d_Model_filters_23 rfl (by omega) ?_
  refine VW.ild (pc' := 25) d_Model_filters_24 rfl (hM.k rfl) (by omega) (by omega) (by first | exact hr | exact hw2 | exact hb2 | rfl) ?_
  refine VW.istore (pc' := 27) d_Model_filters_25 rfl rfl ?_
  refine VW.iconst (pc' := 28) d_Model_filters_27 rfl (by decide) ?_
  refine VW.istore (pc' := 30) d_Model_filters_28 rfl rfl ?_
  refine VW.nrm ?_
  exact l
end
