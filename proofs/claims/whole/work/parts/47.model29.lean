section
variable {K : KT} {P : PT} {J I : IT}
/-- the rows of a table of a state that a role sees: the first n of them -/
noncomputable def scanK (I : IT) (s y t : Int) (w : Nat) : Nat → List (List Int)
  | 0 => []
  | n + 1 => if bI (mSeen I y s t n) = 1 then scanK I s y t w n ++ [rowAt I 215 (mrow s t n) w] else scanK I s y t w n
theorem scanK_yes {s y t : Int} {w n : Nat} (h : mSeen I y s t n) : scanK I s y t w (n + 1) = scanK I s y t w n ++ [rowAt I 215 (mrow s t n) w] := if_pos (bI1 h)
theorem scanK_no {s y t : Int} {w n : Nat} (h : ¬ mSeen I y s t n) : scanK I s y t w (n + 1) = scanK I s y t w n := if_neg (by rw [bI0 h]; decide)
theorem scanK_len {s y t : Int} {w : Nat} : ∀ n : Nat, (scanK I s y t w n).length ≤ n := by
  intro n
  induction n with
  | zero => exact Nat.le_refl _
  | succ n ih =>
    by_cases h : mSeen I y s t n
    · rw [scanK_yes h, List.length_append]; show _ + 1 ≤ _; omega
    · rw [scanK_no h]; omega
theorem mSeen_of {S : IT} {y s t r : Int} (h0 : S 100 8 = I 100 8) (h : ∀ o k, 209 ≤ o → o ≤ 215 → S o k = I o k) : mSeen S y s t r = mSeen I y s t r := by
  unfold mSeen
  rw [h0]
  refine forall_congr (fun j => ?_)
  rw [h 209 j (by decide) (by decide), h 210 j (by decide) (by decide), h 211 j (by decide) (by decide), h 212 j (by decide) (by decide), h 213 j (by decide) (by decide), h 215 _ (by decide) (by decide)]
/-- scanning: k rows are done, m of them seen -/
def SI (I T : IT) (s y t r tp : Int) (w k m : Nat) : Prop :=
  (seg T 270 tp w m = scanK I s y t w k ∧ T 273 r = m ∧ T 272 r = tp ∧ T 274 r = w) ∧ (∀ (o : Nat) (q : Int), ¬ (o = 270 ∧ tp ≤ q) → ¬ (o = 273 ∧ q = r) → ¬ (o = 272 ∧ q = r) → ¬ (o = 274 ∧ q = r) → T o q = I o q) ∧ m ≤ k
theorem SI.no {T : IT} {s y t r tp : Int} {w k m : Nat} (h : SI I T s y t r tp w k m) (g : ¬ mSeen I y s t k) : SI I T s y t r tp w (k + 1) m :=
  ⟨⟨by rw [scanK_no g]; exact h.1.1, h.1.2⟩, h.2.1, by have := h.2.2; omega⟩
theorem SI.yes {T : IT} {s y t r tp : Int} {w k m : Nat} (h : SI I T s y t r tp w k m) (g : mSeen I y s t k) : SI I (up2 (cpyI T 215 (mrow s t k) 270 (tp + (w : Int) * (m : Int)) w) 273 r (m + 1)) s y t r tp w (k + 1) (m + 1) := by
  have m0 := mulNN (w := (w : Int)) (k := (m : Int)) (by omega) (by omega)
  refine ⟨⟨?_, ?_, ?_, ?_⟩, fun o q h1 h2 h3 h4 => ?_, by have := h.2.2; omega⟩
  · rw [scanK_yes g, seg_succ, ← h.1.1]
    congr 1
    · exact seg_congr (fun q a c => by rw [up2_o _ _ _ _ (by decide), cpyI_out (Or.inr (Or.inl (by omega)))])
    · congr 1
      rw [show rowAt (up2 (cpyI T 215 (mrow s t k) 270 (tp + (w : Int) * (m : Int)) w) 273 r (m + 1)) 270 (tp + (w : Int) * (m : Int)) w = rowAt (cpyI T 215 (mrow s t k) 270 (tp + (w : Int) * (m : Int)) w) 270 (tp + (w : Int) * (m : Int)) w from rowAt_congr (fun c a d => up2_o _ _ _ _ (by decide)), rowAt_cpy]
      exact rowAt_congr (fun c a d => h.2.1 215 _ (by omega) (by omega) (by omega) (by omega))
  · rw [up2_eq]; omega
  · rw [up2_o _ _ _ _ (by decide), cpyI_out (Or.inl (by decide))]; exact h.1.2.2.1
  · rw [up2_o _ _ _ _ (by decide), cpyI_out (Or.inl (by decide))]; exact h.1.2.2.2
  · rw [show up2 (cpyI T 215 (mrow s t k) 270 (tp + (w : Int) * (m : Int)) w) 273 r ((m : Int) + 1) o q = cpyI T 215 (mrow s t k) 270 (tp + (w : Int) * (m : Int)) w o q from if_neg h2, cpyI_out (by omega)]
    exact h.2.1 o q h1 h2 h3 h4
theorem sp_Model_scans {s y t r : Int} {w n : Nat} (hM : MW K P) (hb : MB I) (hs : 0 ≤ s ∧ s ≤ 4) (ht : 0 ≤ t ∧ t < 6) (hr : I 100 71 = r) (h0 : 0 ≤ r ∧ r < 12) (hw : I 201 t = w) (hn : I 214 (6 * s + t) = n) (hT0 : 0 ≤ mTop I ∧ mTop I ≤ 100000) (hT1 : I 100 71 ≠ 0 → (0 ≤ I 272 (I 100 71 - 1) ∧ I 272 (I 100 71 - 1) ≤ 700000) ∧ 0 ≤ I 273 (I 100 71 - 1) * I 274 (I 100 71 - 1) ∧ I 273 (I 100 71 - 1) * I 274 (I 100 71 - 1) ≤ 100000) : Sp m_Model_scans false (rmv 2 49) (exU K P J (.inl none) (fun I' => (I' 100 71 = r + 1 ∧ seg I' 270 (mTop I) w (scanK I s y t w n).length = scanK I s y t w n ∧ I' 273 r = (scanK I s y t w n).length ∧ I' 272 r = mTop I ∧ I' 274 r = w) ∧ ∀ (o : Nat) (q : Int), ¬ (o = 270 ∧ mTop I ≤ q) → ¬ (o = 273 ∧ q = r) → ¬ (o = 272 ∧ q = r) → ¬ (o = 274 ∧ q = r) → ¬ (o = 100 ∧ q = 71) → I' o q = I o q)) K P J I [vR (some 100), vI s, vI y, vI t] := by
  refine Sp.ofV (by decide) (Or.inr rfl) rfl ?_
  have c0 := hb.col t
  have r0 := hb.row (6 * s + t)
  have hwn : (w : Int) * (n : Int) ≤ 4 * 8 := mulUp (by omega) (by omega) (by omega) (by omega)
  generalize hTp : mTop I = tp at *
  have loop : ∀ (l k m : Nat) (T : IT), k + l = n → SI I T s y t r tp w k m → VW m_Model_scans false (rmv 2 49) (exU K P J (.inl none) (fun I' => (I' 100 71 = r + 1 ∧ seg I' 270 (tp) w (scanK I s y t w n).length = scanK I s y t w n ∧ I' 273 r = (scanK I s y t w n).length ∧ I' 272 r = tp ∧ I' 274 r = w) ∧ ∀ (o : Nat) (q : Int), ¬ (o = 270 ∧ tp ≤ q) → ¬ (o = 273 ∧ q = r) → ¬ (o = 272 ∧ q = r) → ¬ (o = 274 ∧ q = r) → ¬ (o = 100 ∧ q = 71) → I' o q = I o q)) K P J T 0 0 45 [(0, vR (some 100)), (1, vI s), (2, vI y), (3, vI t), (4, vI (tp + (w : Int) * (m : Int))), (5, vI (k : Int))] [] := by
    intro l
    induction l with
    | zero =>
      intro k m T hk hT
      have ek : k = n := by omega
      have g214 : T 214 (6 * s + t) = n := (hT.2.1 214 _ (by omega) (by omega) (by omega) (by omega)).trans hn
      have g71 : T 100 71 = r := (hT.2.1 100 71 (by omega) (by omega) (by omega) (by omega)).trans hr
      have fin : (up2 T 100 71 (r + 1) 100 71 = r + 1 ∧ seg (up2 T 100 71 (r + 1)) 270 tp w (scanK I s y t w n).length = scanK I s y t w n ∧ up2 T 100 71 (r + 1) 273 r = (scanK I s y t w n).length ∧ up2 T 100 71 (r + 1) 272 r = tp ∧ up2 T 100 71 (r + 1) 274 r = w) ∧ ∀ (o : Nat) (q : Int), ¬ (o = 270 ∧ tp ≤ q) → ¬ (o = 273 ∧ q = r) → ¬ (o = 272 ∧ q = r) → ¬ (o = 274 ∧ q = r) → ¬ (o = 100 ∧ q = 71) → up2 T 100 71 (r + 1) o q = I o q := by
        rw [← ek]
        have el : (scanK I s y t w k).length = m := by rw [← hT.1.1]; exact seg_len
        rw [el]
        refine ⟨⟨up2_eq _ _ _ _, (seg_congr (fun q _ _ => up2_o _ _ _ _ (by decide))).trans hT.1.1, (up2_o _ _ _ _ (by decide)).trans hT.1.2.1, (up2_o _ _ _ _ (by decide)).trans hT.1.2.2.1, (up2_o _ _ _ _ (by decide)).trans hT.1.2.2.2⟩, fun o q h1 h2 h3 h4 h5 => ?_⟩
        rw [show up2 T 100 71 (r + 1) o q = T o q from if_neg h5]; exact hT.2.1 o q h1 h2 h3 h4
      clear hT
      refine VW.iload (pc' := 47) d_Model_scans_45 rfl rfl ?_
      refine VW.aload_n (pc' := 48) d_Model_scans_47 rfl rfl ?_
      refine VW.gP (ci := 11) (T := T11) (N := 94) (k := 14) (k' := 14) (pc' := 51) d_Model_scans_48 rfl lk_Model_46 in11 rfl rfl rfl rfl (hM.k rfl) (hM.p (r := some 214) 14 rfl rfl) ?_
      refine VW.bipush (pc' := 53) d_Model_scans_51 rfl (by decide) ?_
      refine VW.iload_n (pc' := 54) d_Model_scans_53 rfl rfl ?_
      refine VW.imul (pc' := 55) d_Model_scans_54 rfl (by omega) ?_
      refine VW.iload_n (pc' := 56) d_Model_scans_55 rfl rfl ?_
      refine VW.iadd (pc' := 57) d_Model_scans_56 rfl (by omega) ?_
      refine VW.ild (pc' := 58) d_Model_scans_57 rfl (hM.k rfl) (by omega) (by omega) (by first | exact g214 | exact g71 | exact g201 | rfl) ?_
      refine VW.icmp_ge (tgt := 136) (pc' := 61) d_Model_scans_58 rfl rfl (fun c58 => ?_) (fun c58 => ?_)
      · refine VW.aload_n (pc' := 137) d_Model_scans_136 rfl rfl ?_
        refine VW.dup (pc' := 138) d_Model_scans_137 rfl rfl ?_
        refine VW.gI (ci := 11) (T := T11) (N := 94) (k := 71) (k' := 71) (pc' := 141) d_Model_scans_138 rfl lk_Model_434 in11 rfl rfl rfl rfl (hM.k rfl) (by first | exact g214 | exact g71 | exact g201 | rfl) ?_
        refine VW.iconst (pc' := 142) d_Model_scans_141 rfl (by decide) ?_
        refine VW.iadd (pc' := 143) d_Model_scans_142 rfl (by omega) ?_
        refine VW.pI (ci := 11) (T := T11) (N := 94) (k := 71) (k' := 71) (ty := ty11) (pc' := 146) d_Model_scans_143 rfl lk_Model_434 in11 tk11 nm11 rfl rfl rfl rfl rfl rfl (hM.k rfl) ?_
        exact VW.vret d_Model_scans_146 rfl (Nat.zero_le _) (Nat.zero_le _) (exU_mk fin)
      · exfalso; omega
    | succ l ih =>
      intro k m T hk hT
      have g214 : T 214 (6 * s + t) = n := (hT.2.1 214 _ (by omega) (by omega) (by omega) (by omega)).trans hn
      have g71 : T 100 71 = r := (hT.2.1 100 71 (by omega) (by omega) (by omega) (by omega)).trans hr
      have fr := fun (o : Nat) (q : Int) (h1 : o ≠ 270) (h2 : o ≠ 273) (h3 : o ≠ 272) (h4 : o ≠ 274) => hT.2.1 o q (fun z => h1 z.1) (fun z => h2 z.1) (fun z => h3 z.1) (fun z => h4 z.1)
      have hbT : MB T := hb.of (fr 100 0 (by decide) (by decide) (by decide) (by decide)) (fr 100 8 (by decide) (by decide) (by decide) (by decide)) (fr 100 19 (by decide) (by decide) (by decide) (by decide)) (fun k => fr 201 k (by decide) (by decide) (by decide) (by decide)) (fun k => fr 202 k (by decide) (by decide) (by decide) (by decide)) (fun k => fr 206 k (by decide) (by decide) (by decide) (by decide)) (fun k => fr 211 k (by decide) (by decide) (by decide) (by decide)) (fun k => by rw [fr 214 k (by decide) (by decide) (by decide) (by decide)]; exact hb.row k) (fun k => fr 223 k (by decide) (by decide) (by decide) (by decide)) (fun k => by rw [fr 236 k (by decide) (by decide) (by decide) (by decide)]; exact hb.who k)
      have sn := sp_Model_isSeen (K := K) (P := P) (J := J) (I := T) (w := y) (s := s) (t := t) (r := (k : Int)) hM hbT hs ht (by omega)
      rw [mSeen_of (I := I) (fr 100 8 (by decide) (by decide) (by decide) (by decide)) (fun o q h1 h2 => fr o q (by omega) (by omega) (by omega) (by omega))] at sn
      have g201 : T 201 t = w := (fr 201 t (by decide) (by decide) (by decide) (by decide)).trans hw
      have s1 := mulStep (w := (w : Int)) (k := (m : Int)) (n := (n : Int)) (by omega) (by have := hT.2.2; omega)
      have s3 := mulNN (w := (w : Int)) (k := (m : Int)) (by omega) (by omega)
      have mk := hT.2.2
      have g273 := hT.1.2.1
      have ek : ((k + 1 : Nat) : Int) = (k : Int) + 1 := by omega
      have em : ((m + 1 : Nat) : Int) = (m : Int) + 1 := by omega
      have nN := fun z => ih (k + 1) m T (by omega) (hT.no z)
      have nY := fun z => ih (k + 1) (m + 1) _ (by omega) (hT.yes z)
      rw [ek] at nN nY
      rw [em, Int.mul_add, Int.mul_one, ← Int.add_assoc] at nY
      clear ih hT fr hbT
      have copy : ∀ (j : Nat) (c : Int), c + j = w → 0 ≤ c → mSeen I y s t k → VW m_Model_scans false (rmv 2 49) (exU K P J (.inl none) (fun I' => (I' 100 71 = r + 1 ∧ seg I' 270 (tp) w (scanK I s y t w n).length = scanK I s y t w n ∧ I' 273 r = (scanK I s y t w n).length ∧ I' 272 r = tp ∧ I' 274 r = w) ∧ ∀ (o : Nat) (q : Int), ¬ (o = 270 ∧ tp ≤ q) → ¬ (o = 273 ∧ q = r) → ¬ (o = 272 ∧ q = r) → ¬ (o = 274 ∧ q = r) → ¬ (o = 100 ∧ q = 71) → I' o q = I o q)) K P J (cpyI T 215 (mrow s t k) 270 (tp + (w : Int) * (m : Int)) c) 0 0 76 [(0, vR (some 100)), (1, vI s), (2, vI y), (3, vI t), (4, vI (tp + (w : Int) * (m : Int) + c)), (5, vI (k : Int)), (6, vI c)] [] := by
        intro j
        induction j with
        | zero =>
          intro c hc h1 h2
          have ec : c = w := by omega
          subst ec
          have nx := nY h2
          have h71 : cpyI T 215 (mrow s t k) 270 (tp + (w : Int) * (m : Int)) w 100 71 = r := (cpyI_out (Or.inl (by decide))).trans g71
          have h273 : cpyI T 215 (mrow s t k) 270 (tp + (w : Int) * (m : Int)) w 273 r = m := (cpyI_out (Or.inl (by decide))).trans g273
          have h201 : cpyI T 215 (mrow s t k) 270 (tp + (w : Int) * (m : Int)) w 201 t = w := (cpyI_out (Or.inl (by decide))).trans g201
          clear nN nY sn
          refine VW.iload (pc' := 78) d_Model_scans_76 rfl rfl ?_
          refine VW.aload_n (pc' := 79) d_Model_scans_78 rfl rfl ?_
          refine VW.gP (ci := 11) (T := T11) (N := 94) (k := 1) (k' := 1) (pc' := 82) d_Model_scans_79 rfl lk_Model_7 in11 rfl rfl rfl rfl (hM.k rfl) (hM.p (r := some 201) 1 rfl rfl) ?_
          refine VW.iload_n (pc' := 83) d_Model_scans_82 rfl rfl ?_
          refine VW.ild (pc' := 84) d_Model_scans_83 rfl (hM.k rfl) (by omega) (by omega) (by first | exact h71 | exact h273 | exact h201 | rfl) ?_
          refine VW.icmp_ge (tgt := 117) (pc' := 87) d_Model_scans_84 rfl rfl (fun c84 => ?_) (fun c84 => ?_)
          · refine VW.aload_n (pc' := 118) d_Model_scans_117 rfl rfl ?_
            refine VW.gP (ci := 11) (T := T11) (N := 94) (k := 73) (k' := 73) (pc' := 121) d_Model_scans_118 rfl lk_Model_184 in11 rfl rfl rfl rfl (hM.k rfl) (hM.p (r := some 273) 73 rfl rfl) ?_
            refine VW.aload_n (pc' := 122) d_Model_scans_121 rfl rfl ?_
            refine VW.gI (ci := 11) (T := T11) (N := 94) (k := 71) (k' := 71) (pc' := 125) d_Model_scans_122 rfl lk_Model_434 in11 rfl rfl rfl rfl (hM.k rfl) (by first | exact h71 | exact h273 | exact h201 | rfl) ?_
            refine VW.dup2 (pc' := 126) d_Model_scans_125 rfl rfl rfl ?_
            refine VW.ild (pc' := 127) d_Model_scans_126 rfl (hM.k rfl) (by omega) (by omega) (by first | exact h71 | exact h273 | exact h201 | rfl) ?_
            refine VW.iconst (pc' := 128) d_Model_scans_127 rfl (by decide) ?_
            refine VW.iadd (pc' := 129) d_Model_scans_128 rfl (by omega) ?_
            refine VW.iast (pc' := 130) d_Model_scans_129 rfl (hM.k rfl) (by omega) (by omega) ?_
            refine VW.iinc (pc' := 133) d_Model_scans_130 rfl rfl rfl (by omega) ?_
            refine VW.goto (pc' := 45) d_Model_scans_133 rfl ?_
            refine VW.pick [0, 1, 2, 3, 4, 5] ?_
            exact nx
          · exfalso; omega
        | succ j ihc =>
          intro c hc h1 h2
          have nx := ihc (c + 1) (by omega) (by omega) h2
          rw [← cpyI_stepG (I := T) (s := 215) (a := 270) h1 (cpyI_out (Or.inl (by decide))), ← Int.add_assoc] at nx
          have h201 : cpyI T 215 (mrow s t k) 270 (tp + (w : Int) * (m : Int)) c 201 t = w := (cpyI_out (Or.inl (by decide))).trans g201
          clear nN nY sn ihc
          refine VW.iload (pc' := 78) d_Model_scans_76 rfl rfl ?_
          refine VW.aload_n (pc' := 79) d_Model_scans_78 rfl rfl ?_
          refine VW.gP (ci := 11) (T := T11) (N := 94) (k := 1) (k' := 1) (pc' := 82) d_Model_scans_79 rfl lk_Model_7 in11 rfl rfl rfl rfl (hM.k rfl) (hM.p (r := some 201) 1 rfl rfl) ?_
          refine VW.iload_n (pc' := 83) d_Model_scans_82 rfl rfl ?_
          refine VW.ild (pc' := 84) d_Model_scans_83 rfl (hM.k rfl) (by omega) (by omega) (by first | exact h201 | exact cpyI_out (Or.inl (by decide)) | rfl) ?_
          refine VW.icmp_ge (tgt := 117) (pc' := 87) d_Model_scans_84 rfl rfl (fun c84 => ?_) (fun c84 => ?_)
          · exfalso; omega
          · refine VW.aload_n (pc' := 88) d_Model_scans_87 rfl rfl ?_
            refine VW.gP (ci := 11) (T := T11) (N := 94) (k := 70) (k' := 70) (pc' := 91) d_Model_scans_88 rfl lk_Model_178 in11 rfl rfl rfl rfl (hM.k rfl) (hM.p (r := some 270) 70 rfl rfl) ?_
            refine VW.iload (pc' := 93) d_Model_scans_91 rfl rfl ?_
            refine VW.aload_n (pc' := 94) d_Model_scans_93 rfl rfl ?_
            refine VW.gP (ci := 11) (T := T11) (N := 94) (k := 15) (k' := 15) (pc' := 97) d_Model_scans_94 rfl lk_Model_49 in11 rfl rfl rfl rfl (hM.k rfl) (hM.p (r := some 215) 15 rfl rfl) ?_
            refine VW.iload_n (pc' := 98) d_Model_scans_97 rfl rfl ?_
            refine VW.iload_n (pc' := 99) d_Model_scans_98 rfl rfl ?_
            refine VW.iload (pc' := 101) d_Model_scans_99 rfl rfl ?_
            refine VW.iload (pc' := 103) d_Model_scans_101 rfl rfl ?_
            refine VW.cS (pc' := 106) d_Model_scans_103 rfl ms_Model_cell lk_Model_273 rfl rfl rfl (Nat.le_refl _) (Nat.le_refl _) (sp_Model_cell (by omega) (by omega) (by omega) (by omega)) rfl rfl ?_
            refine VW.ild (pc' := 107) d_Model_scans_106 rfl (hM.k rfl) (by omega) (by omega) (by first | exact h201 | exact cpyI_out (Or.inl (by decide)) | rfl) ?_
            refine VW.iast (pc' := 108) d_Model_scans_107 rfl (hM.k rfl) (by omega) (by omega) ?_
            refine VW.iinc (pc' := 111) d_Model_scans_108 rfl rfl rfl (by omega) ?_
            refine VW.iinc (pc' := 114) d_Model_scans_111 rfl rfl rfl (by omega) ?_
            refine VW.goto (pc' := 76) d_Model_scans_114 rfl ?_
            refine VW.nrm ?_
            exact nx
      have cp := copy w 0 (by omega) (by omega)
      rw [cpyI_0, Int.add_zero] at cp
      clear copy nY
      refine VW.iload (pc' := 47) d_Model_scans_45 rfl rfl ?_
      refine VW.aload_n (pc' := 48) d_Model_scans_47 rfl rfl ?_
      refine VW.gP (ci := 11) (T := T11) (N := 94) (k := 14) (k' := 14) (pc' := 51) d_Model_scans_48 rfl lk_Model_46 in11 rfl rfl rfl rfl (hM.k rfl) (hM.p (r := some 214) 14 rfl rfl) ?_
      refine VW.bipush (pc' := 53) d_Model_scans_51 rfl (by decide) ?_
      refine VW.iload_n (pc' := 54) d_Model_scans_53 rfl rfl ?_
      refine VW.imul (pc' := 55) d_Model_scans_54 rfl (by omega) ?_
      refine VW.iload_n (pc' := 56) d_Model_scans_55 rfl rfl ?_
      refine VW.iadd (pc' := 57) d_Model_scans_56 rfl (by omega) ?_
      refine VW.ild (pc' := 58) d_Model_scans_57 rfl (hM.k rfl) (by omega) (by omega) (by first | exact g214 | exact g71 | exact g201 | rfl) ?_
      refine VW.icmp_ge (tgt := 136) (pc' := 61) d_Model_scans_58 rfl rfl (fun c58 => ?_) (fun c58 => ?_)
      · exfalso; omega
      · refine VW.aload_n (pc' := 62) d_Model_scans_61 rfl rfl ?_
        refine VW.iload_n (pc' := 63) d_Model_scans_62 rfl rfl ?_
        refine VW.iload_n (pc' := 64) d_Model_scans_63 rfl rfl ?_
        refine VW.iload_n (pc' := 65) d_Model_scans_64 rfl rfl ?_
        refine VW.iload (pc' := 67) d_Model_scans_65 rfl rfl ?_
        refine VW.cV (ci := 11) (T := T11) (N := 94) (pc' := 70) d_Model_scans_67 rfl mv_Model_isSeen lk_Model_325 rfl (hM.k rfl) rfl rfl rfl (Nat.le_refl _) (Nat.le_refl _) (sn) rfl rfl ?_
        refine VW.if_eq (tgt := 130) (pc' := 73) d_Model_scans_70 rfl rfl (fun c70 => ?_) (fun c70 => ?_)
        · try have e70 := bIe c70
          refine VW.iinc (pc' := 133) d_Model_scans_130 rfl rfl rfl (by omega) ?_
          refine VW.goto (pc' := 45) d_Model_scans_133 rfl ?_
          refine VW.nrm ?_
          exact nN e70
        · try have e70 := bIn c70
          refine VW.iconst (pc' := 74) d_Model_scans_73 rfl (by decide) ?_
          refine VW.istore (pc' := 76) d_Model_scans_74 rfl rfl ?_
          refine VW.nrm ?_
          exact cp e70
  have st : SI I (up2 (up2 (up2 I 272 r tp) 274 r w) 273 r 0) s y t r tp w 0 0 := by
    refine ⟨⟨rfl, up2_eq _ _ _ _, ?_, ?_⟩, fun o q h1 h2 h3 h4 => ?_, Nat.le_refl _⟩
    · rw [up2_o _ _ _ _ (by decide), up2_o _ _ _ _ (by decide), up2_eq]
    · rw [up2_o _ _ _ _ (by decide), up2_eq]
    · rw [show up2 (up2 (up2 I 272 r tp) 274 r w) 273 r 0 o q = up2 (up2 I 272 r tp) 274 r w o q from if_neg h2, show up2 (up2 I 272 r tp) 274 r w o q = up2 I 272 r tp o q from if_neg h4, show up2 I 272 r tp o q = I o q from if_neg h3]
  have l := loop n 0 0 _ (by omega) st
  rw [show (((0 : Nat) : Int)) = 0 from rfl, Int.mul_zero, Int.add_zero] at l
  have tp1 := sp_Model_top (K := K) (P := P) (J := J) (I := I) hM (by omega) hT1
  rw [hTp] at tp1
  have a71 : ∀ v, up2 I 272 r v 100 71 = r := fun v => (up2_o _ _ _ _ (by decide)).trans hr
  have b71 : ∀ v z, up2 (up2 I 272 r v) 274 r z 100 71 = r := fun v z => (up2_o _ _ _ _ (by decide)).trans (a71 v)
  have a201 : ∀ v, up2 I 272 r v 201 t = w := fun v => (up2_o _ _ _ _ (by decide)).trans hw
  clear loop
  refine VW.aload_n (pc' := 1) d_Model_scans_0 rfl rfl ?_
  refine VW.cV (ci := 11) (T := T11) (N := 94) (pc' := 4) d_Model_scans_1 rfl mv_Model_top lk_Model_437 rfl (hM.k rfl) rfl rfl rfl (Nat.le_refl _) (Nat.le_refl _) (tp1) rfl rfl ?_
  refine VW.istore (pc' := 6) d_Model_scans_4 rfl rfl ?_
  refine VW.aload_n (pc' := 7) d_Model_scans_6 rfl rfl ?_
  refine VW.gP (ci := 11) (T := T11) (N := 94) (k := 72) (k' := 72) (pc' := 10) d_Model_scans_7 rfl lk_Model_181 in11 rfl rfl rfl rfl (hM.k rfl) (hM.p (r := some 272) 72 rfl rfl) ?_
  refine VW.aload_n (pc' := 11) d_Model_scans_10 rfl rfl ?_
  refine VW.gI (ci := 11) (T := T11) (N := 94) (k := 71) (k' := 71) (pc' := 14) d_Model_scans_11 rfl lk_Model_434 in11 rfl rfl rfl rfl (hM.k rfl) (by first | exact hr | exact a71 _ | exact b71 _ _ | exact a201 _ | rfl) ?_
  refine VW.iload (pc' := 16) d_Model_scans_14 rfl rfl ?_
  refine VW.iast (pc' := 17) d_Model_scans_16 rfl (hM.k rfl) (by omega) (by omega) ?_
  refine VW.aload_n (pc' := 18) d_Model_scans_17 rfl rfl ?_
  refine VW.gP (ci := 11) (T := T11) (N := 94) (k := 74) (k' := 74) (pc' := 21) d_Model_scans_18 rfl lk_Model_187 in11 rfl rfl rfl rfl (hM.k rfl) (hM.p (r := some 274) 74 rfl rfl) ?_
  refine VW.aload_n (pc' := 22) d_Model_scans_21 rfl rfl ?_
  refine VW.gI (ci := 11) (T := T11) (N := 94) (k := 71) (k' := 71) (pc' := 25) d_Model_scans_22 rfl lk_Model_434 in11 rfl rfl rfl rfl (hM.k rfl) (by first | exact hr | exact a71 _ | exact b71 _ _ | exact a201 _ | rfl) ?_
  refine VW.aload_n (pc' := 26) d_Model_scans_25 rfl rfl ?_
  refine VW.gP (ci := 11) (T := T11) (N := 94) (k := 1) (k' := 1) (pc' := 29) d_Model_scans_26 rfl lk_Model_7 in11 rfl rfl rfl rfl (hM.k rfl) (hM.p (r := some 201) 1 rfl rfl) ?_
  refine VW.iload_n (pc' := 30) d_Model_scans_29 rfl rfl ?_
  refine VW.ild (pc' := 31) d_Model_scans_30 rfl (hM.k rfl) (by omega) (by omega) (by first | exact hr | exact a71 _ | exact b71 _ _ | exact a201 _ | rfl) ?_
  refine VW.iast (pc' := 32) d_Model_scans_31 rfl (hM.k rfl) (by omega) (by omega) ?_
  refine VW.aload_n (pc' := 33) d_Model_scans_32 rfl rfl ?_
  refine VW.gP (ci := 11) (T := T11) (N := 94) (k := 73) (k' := 73) (pc' := 36) d_Model_scans_33 rfl lk_Model_184 in11 rfl rfl rfl rfl (hM.k rfl) (hM.p (r := some 273) 73 rfl rfl) ?_
  refine VW.aload_n (pc' := 37) d_Model_scans_36 rfl rfl ?_
  refine VW.gI (ci := 11) (T := T11) (N := 94) (k := 71) (k' := 71) (pc' := 40) d_Model_scans_37 rfl lk_Model_434 in11 rfl rfl rfl rfl (hM.k rfl) (by first | exact hr | exact a71 _ | exact b71 _ _ | exact a201 _ | rfl) ?_
  refine VW.iconst (pc' := 41) d_Model_scans_40 rfl (by decide) ?_
  refine VW.iast (pc' := 42) d_Model_scans_41 rfl (hM.k rfl) (by omega) (by omega) ?_
  refine VW.iconst (pc' := 43) d_Model_scans_42 rfl (by decide) ?_
  refine VW.istore (pc' := 45) d_Model_scans_43 rfl rfl ?_
  refine VW.nrm ?_
  exact l
end
