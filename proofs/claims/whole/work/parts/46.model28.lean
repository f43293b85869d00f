section
variable {K : KT} {P : PT} {J I : IT}
theorem rowAt_0 {a : Nat} {b : Int} : rowAt I a b 0 = [] := rfl
theorem rowAt_succ {a w : Nat} {b : Int} : rowAt I a b (w + 1) = rowAt I a b w ++ [I a (b + (w : Int))] := by
  unfold rowAt
  rw [List.range_succ, List.map_append]; rfl
/-- column c is kept -/
def bitIn (s : Int) (c : Nat) : Prop := s / 2 ^ c % 2 = 1
def bitB (s : Int) (c : Nat) : Bool := decide (s / 2 ^ c % 2 = 1)
theorem bitB_1 {s : Int} {c : Nat} (h : bitIn s c) : bitB s c = true := decide_eq_true h
theorem bitB_0 {s : Int} {c : Nat} (h : ¬ bitIn s c) : ¬ bitB s c = true := fun z => h (of_decide_eq_true (p := s / 2 ^ c % 2 = 1) z)
def keepR (s : Int) (w : Nat) (r : List Int) : List Int := ((List.range w).filter (bitB s)).map (fun c : Nat => nth r (c : Int))
def wk (s : Int) (w : Nat) : Nat := ((List.range w).filter (bitB s)).length
theorem keepR_len {s : Int} {w : Nat} {r : List Int} : (keepR s w r).length = wk s w := by unfold keepR wk; rw [List.length_map]
theorem keepR_yes {s : Int} {w : Nat} {r : List Int} (h : bitIn s w) : keepR s (w + 1) r = keepR s w r ++ [nth r (w : Int)] := by
  unfold keepR
  rw [List.range_succ, List.filter_append, List.map_append, List.filter_cons_of_pos (bitB_1 h)]; rfl
theorem keepR_no {s : Int} {w : Nat} {r : List Int} (h : ¬ bitIn s w) : keepR s (w + 1) r = keepR s w r := by
  unfold keepR
  rw [List.range_succ, List.filter_append, List.map_append, List.filter_cons_of_neg (bitB_0 h)]
  exact List.append_nil _
theorem wk_yes {s : Int} {w : Nat} (h : bitIn s w) : wk s (w + 1) = wk s w + 1 := by
  have := congrArg List.length (keepR_yes (r := []) h)
  rw [List.length_append, keepR_len, keepR_len] at this
  exact this
theorem wk_no {s : Int} {w : Nat} (h : ¬ bitIn s w) : wk s (w + 1) = wk s w := by
  have := congrArg List.length (keepR_no (r := []) h)
  rw [keepR_len, keepR_len] at this
  exact this
theorem wk_le {s : Int} (w : Nat) : wk s w ≤ w := by
  have := List.length_filter_le (bitB s) (List.range w)
  rw [List.length_range] at this
  exact this
theorem wk_mono {s : Int} (w : Nat) : ∀ v, w ≤ v → wk s w ≤ wk s v := by
  intro v
  induction v with
  | zero => intro h; rw [show w = 0 by omega]; exact Nat.le_refl _
  | succ v ih =>
    intro h
    by_cases e : w = v + 1
    · rw [e]; exact Nat.le_refl _
    · have := ih (by omega)
      by_cases g : bitIn s v
      · rw [wk_yes g]; omega
      · rw [wk_no g]; exact this
theorem mCnt_wk {s : Int} (w : Nat) : mCnt s w = wk s w := by
  induction w with
  | zero => rfl
  | succ w ih =>
    show mCnt s w + s / 2 ^ w % 2 = _
    by_cases g : bitIn s w
    · rw [wk_yes g, ih]; unfold bitIn at g; omega
    · rw [wk_no g, ih]; unfold bitIn at g; omega
theorem wk_top {s : Int} {w : Nat} (h0 : 0 ≤ s) (h1 : s < 2 ^ w) : ∀ d : Nat, wk s (w + d) = wk s w := by
  intro d
  induction d with
  | zero => rfl
  | succ d ih =>
    have g : ¬ bitIn s (w + d) := by
      unfold bitIn
      rw [Int.ediv_eq_zero_of_lt h0 (Int.lt_of_lt_of_le h1 ?_)]
      · decide
      · have e : (2 : Int) ^ (w + d) = 2 ^ w * 2 ^ d := Int.pow_add _ _ _
        rw [e]
        have p1 : (0 : Int) < 2 ^ w := Int.pow_pos (by decide)
        have p2 : (0 : Int) < 2 ^ d := Int.pow_pos (by decide)
        have := Int.mul_le_mul_of_nonneg_left (show (1 : Int) ≤ 2 ^ d by omega) (Int.le_of_lt p1)
        omega
    rw [show w + (d + 1) = (w + d) + 1 by omega, wk_no g]; exact ih
theorem mCnt_31 {s : Int} {w : Nat} (h0 : 0 ≤ s) (h1 : s < 2 ^ w) (hw : w ≤ 10) : mCnt s 31 = wk s w := by
  rw [mCnt_wk]
  have := wk_top h0 h1 (31 - w)
  rw [show w + (31 - w) = 31 by omega] at this
  rw [this]
def keepL (s : Int) (w : Nat) (L : List (List Int)) : List (List Int) := L.map (keepR s w)
/-- keeping columns: k rows are done -/
def KI (I T : IT) (b s : Int) (w k : Nat) : Prop :=
  seg T 270 b (wk s w) k = keepL s w (seg I 270 b w k) ∧ (∀ q, b + (w : Int) * (k : Int) ≤ q → T 270 q = I 270 q) ∧ (∀ (o : Nat) (q : Int), ¬ (o = 270 ∧ b ≤ q) → T o q = I o q)
/-- and c columns of the row k -/
def KC (I T0 T : IT) (b s : Int) (w k c : Nat) : Prop :=
  rowAt T 270 (b + (wk s w : Int) * (k : Int)) (wk s c) = keepR s c (rowAt I 270 (b + (w : Int) * (k : Int)) w) ∧ (∀ q, b + (w : Int) * (k : Int) + c ≤ q → T 270 q = I 270 q) ∧ (∀ (o : Nat) (q : Int), ¬ (o = 270 ∧ b + (wk s w : Int) * (k : Int) ≤ q) → T o q = T0 o q)
theorem KC.yes {T0 T : IT} {b s : Int} {w k c : Nat} (h : KC I T0 T b s w k c) (hc : c < w) (g : bitIn s c) : KC I T0 (up2 T 270 (b + (wk s w : Int) * (k : Int) + (wk s c : Int)) (I 270 (b + (w : Int) * (k : Int) + (c : Int)))) b s w k (c + 1) := by
  have m1 : (wk s w : Int) * (k : Int) ≤ (w : Int) * (k : Int) := Int.mul_le_mul_of_nonneg_right (by have := @wk_le s w; omega) (by omega)
  have m2 := @wk_le s c
  refine ⟨?_, fun q hq => ?_, fun o q hq => ?_⟩
  · rw [wk_yes g, rowAt_succ, keepR_yes g, up2_eq, nth_rowAt (by omega) (by omega)]
    congr 1
    rw [← h.1]
    exact rowAt_congr (fun d a e => up2_k _ _ _ _ (by omega))
  · rw [up2_k _ _ _ _ (by omega)]; exact h.2.1 q (by omega)
  · rw [show up2 T 270 (b + (wk s w : Int) * (k : Int) + (wk s c : Int)) (I 270 (b + (w : Int) * (k : Int) + (c : Int))) o q = T o q from if_neg (by omega)]; exact h.2.2 o q hq
theorem KC.no {T0 T : IT} {b s : Int} {w k c : Nat} (h : KC I T0 T b s w k c) (g : ¬ bitIn s c) : KC I T0 T b s w k (c + 1) :=
  ⟨by rw [wk_no g, keepR_no g]; exact h.1, fun q hq => h.2.1 q (by omega), h.2.2⟩
theorem KC.start {T : IT} {b s : Int} {w k : Nat} (h : KI I T b s w k) : KC I T T b s w k 0 := ⟨rfl, fun q hq => h.2.1 q (by omega), fun o q _ => rfl⟩
theorem KC.row {T0 T : IT} {b s : Int} {w k : Nat} (h : KI I T0 b s w k) (hc : KC I T0 T b s w k w) : KI I T b s w (k + 1) := by
  have m1 : (wk s w : Int) * (k : Int) ≤ (w : Int) * (k : Int) := Int.mul_le_mul_of_nonneg_right (by have := @wk_le s w; omega) (by omega)
  have m0 : 0 ≤ (wk s w : Int) * (k : Int) := mulNN (by omega) (by omega)
  have e : (w : Int) * ((k + 1 : Nat) : Int) = (w : Int) * (k : Int) + w := by rw [show ((k + 1 : Nat) : Int) = (k : Int) + 1 by omega, Int.mul_add, Int.mul_one]
  refine ⟨?_, fun q hq => hc.2.1 q (by rw [e] at hq; omega), fun o q hq => (hc.2.2 o q (by omega)).trans (h.2.2 o q hq)⟩
  rw [seg_succ, seg_succ]
  unfold keepL
  rw [List.map_append]
  congr 1
  · have h1 := h.1
    unfold keepL at h1
    rw [← h1]
    exact seg_congr (fun q a d => hc.2.2 270 _ (by omega))
  · show [_] = [_]
    rw [hc.1]
theorem sp_Model_keeps {x r b : Int} {w n : Nat} (hM : MW K P) (hx : 0 ≤ x ∧ x < 252) (hr : I 100 71 = r + 1) (h0 : 0 ≤ r ∧ r < 12) (hw : I 274 r = w) (hn : I 273 r = n) (hb : I 272 r = b) (hp : 0 ≤ b ∧ b + (w : Int) * (n : Int) ≤ 700000) (hW : w ≤ 10) (hN : n ≤ 512) (hs : 0 ≤ I 257 x ∧ I 257 x < 2 ^ w) : Sp m_Model_keeps false (rmv 1 22) (exU K P J (.inl none) (fun I' => (seg I' 270 b (wk (I 257 x) w) n = keepL (I 257 x) w (seg I 270 b w n) ∧ I' 274 r = wk (I 257 x) w) ∧ ∀ (o : Nat) (k : Int), ¬ (o = 270 ∧ b ≤ k) → ¬ (o = 274 ∧ k = r) → I' o k = I o k)) K P J I [vR (some 100), vI x] := by
  refine Sp.ofV (by decide) (Or.inr rfl) rfl ?_
  have hwn : (w : Int) * (n : Int) ≤ 10 * 512 := mulUp (by omega) (by omega) (by omega) (by omega)
  have hp10 : (2 : Int) ^ w ≤ 1024 := by have := (pw10 (n := (w : Int)) (by omega) (by omega)).2; rw [Int.toNat_natCast] at this; exact this
  have loop : ∀ (l k : Nat) (T : IT), k + l = n → KI I T b (I 257 x) w k → VW m_Model_keeps false (rmv 1 22) (exU K P J (.inl none) (fun I' => (seg I' 270 b (wk (I 257 x) w) n = keepL (I 257 x) w (seg I 270 b w n) ∧ I' 274 r = wk (I 257 x) w) ∧ ∀ (o : Nat) (k : Int), ¬ (o = 270 ∧ b ≤ k) → ¬ (o = 274 ∧ k = r) → I' o k = I o k)) K P J T 0 0 30 [(0, vR (some 100)), (1, vI x), (2, vI (w : Int)), (3, vI b), (4, vI (b + (wk (I 257 x) w : Int) * (k : Int))), (5, vI (k : Int))] [] := by
    intro l
    induction l with
    | zero =>
      intro k T hk hT
      have ek : k = n := by omega
      subst ek
      have g71 := hT.2.2 100 71 (by omega)
      have g273 : T 273 (r + 1 - 1) = k := by rw [show r + 1 - 1 = r by omega, hT.2.2 273 r (by omega)]; exact hn
      have g257 : T 257 x = I 257 x := hT.2.2 257 x (by omega)
      rw [hr] at g71
      have fin : (seg (up2 T 274 (r + 1 - 1) (mCnt (I 257 x) 31)) 270 b (wk (I 257 x) w) k = keepL (I 257 x) w (seg I 270 b w k) ∧ up2 T 274 (r + 1 - 1) (mCnt (I 257 x) 31) 274 r = wk (I 257 x) w) ∧ ∀ (o : Nat) (q : Int), ¬ (o = 270 ∧ b ≤ q) → ¬ (o = 274 ∧ q = r) → up2 T 274 (r + 1 - 1) (mCnt (I 257 x) 31) o q = I o q := by
        rw [show r + 1 - 1 = r by omega]
        refine ⟨⟨(seg_congr (fun q _ _ => up2_o _ _ _ _ (by decide))).trans hT.1, ?_⟩, fun o q h1 h2 => ?_⟩
        · rw [up2_eq]; exact mCnt_31 hs.1 hs.2 hW
        · rw [show up2 T 274 r (mCnt (I 257 x) 31) o q = T o q from if_neg h2]; exact hT.2.2 o q h1
      clear hT
      refine VW.iload (pc' := 32) d_Model_keeps_30 rfl rfl ?_
      refine VW.aload_n (pc' := 33) d_Model_keeps_32 rfl rfl ?_
      refine VW.gP (ci := 11) (T := T11) (N := 94) (k := 73) (k' := 73) (pc' := 36) d_Model_keeps_33 rfl lk_Model_184 in11 rfl rfl rfl rfl (hM.k rfl) (hM.p (r := some 273) 73 rfl rfl) ?_
      refine VW.aload_n (pc' := 37) d_Model_keeps_36 rfl rfl ?_
      refine VW.gI (ci := 11) (T := T11) (N := 94) (k := 71) (k' := 71) (pc' := 40) d_Model_keeps_37 rfl lk_Model_434 in11 rfl rfl rfl rfl (hM.k rfl) (by first | exact g71 | exact g273 | exact g257 | exact gv | rfl) ?_
      refine VW.iconst (pc' := 41) d_Model_keeps_40 rfl (by decide) ?_
      refine VW.isub (pc' := 42) d_Model_keeps_41 rfl (by omega) ?_
      refine VW.ild (pc' := 43) d_Model_keeps_42 rfl (hM.k rfl) (by omega) (by omega) (by first | exact g71 | exact g273 | exact g257 | exact gv | rfl) ?_
      refine VW.icmp_ge (tgt := 106) (pc' := 46) d_Model_keeps_43 rfl rfl (fun c43 => ?_) (fun c43 => ?_)
      · refine VW.aload_n (pc' := 107) d_Model_keeps_106 rfl rfl ?_
        refine VW.gP (ci := 11) (T := T11) (N := 94) (k := 74) (k' := 74) (pc' := 110) d_Model_keeps_107 rfl lk_Model_187 in11 rfl rfl rfl rfl (hM.k rfl) (hM.p (r := some 274) 74 rfl rfl) ?_
        refine VW.aload_n (pc' := 111) d_Model_keeps_110 rfl rfl ?_
        refine VW.gI (ci := 11) (T := T11) (N := 94) (k := 71) (k' := 71) (pc' := 114) d_Model_keeps_111 rfl lk_Model_434 in11 rfl rfl rfl rfl (hM.k rfl) (by first | exact g71 | exact g273 | exact g257 | exact gv | rfl) ?_
        refine VW.iconst (pc' := 115) d_Model_keeps_114 rfl (by decide) ?_
        refine VW.isub (pc' := 116) d_Model_keeps_115 rfl (by omega) ?_
        refine VW.aload_n (pc' := 117) d_Model_keeps_116 rfl rfl ?_
        refine VW.gP (ci := 11) (T := T11) (N := 94) (k := 57) (k' := 57) (pc' := 120) d_Model_keeps_117 rfl lk_Model_147 in11 rfl rfl rfl rfl (hM.k rfl) (hM.p (r := some 257) 57 rfl rfl) ?_
        refine VW.iload_n (pc' := 121) d_Model_keeps_120 rfl rfl ?_
        refine VW.ild (pc' := 122) d_Model_keeps_121 rfl (hM.k rfl) (by omega) (by omega) (by first | exact g71 | exact g273 | exact g257 | exact gv | rfl) ?_
        refine VW.cS (pc' := 125) d_Model_keeps_122 rfl ms_Model_counted lk_Model_422 rfl rfl rfl (Nat.le_refl _) (Nat.le_refl _) (sp_Model_counted (by omega)) rfl rfl ?_
        refine VW.iast (pc' := 126) d_Model_keeps_125 rfl (hM.k rfl) (by omega) (by omega) ?_
        exact VW.vret d_Model_keeps_126 rfl (Nat.zero_le _) (Nat.zero_le _) (exU_mk fin)
      · exfalso; omega
    | succ l ih =>
      intro k T0 hk hT0
      have g71 := hT0.2.2 100 71 (by omega)
      have g273 : T0 273 (r + 1 - 1) = n := by rw [show r + 1 - 1 = r by omega, hT0.2.2 273 r (by omega)]; exact hn
      rw [hr] at g71
      have s1 := mulStep (w := (w : Int)) (k := (k : Int)) (n := (n : Int)) (by omega) (by omega)
      have s2 : (wk (I 257 x) w : Int) * (k : Int) ≤ (w : Int) * (k : Int) := Int.mul_le_mul_of_nonneg_right (by have := @wk_le (I 257 x) w; omega) (by omega)
      have s3 := mulNN (w := (wk (I 257 x) w : Int)) (k := (k : Int)) (by omega) (by omega)
      have ek : ((k + 1 : Nat) : Int) = (k : Int) + 1 := by omega
      have cols : ∀ (j c : Nat) (T : IT), c + j = w → KC I T0 T b (I 257 x) w k c → VW m_Model_keeps false (rmv 1 22) (exU K P J (.inl none) (fun I' => (seg I' 270 b (wk (I 257 x) w) n = keepL (I 257 x) w (seg I 270 b w n) ∧ I' 274 r = wk (I 257 x) w) ∧ ∀ (o : Nat) (k : Int), ¬ (o = 270 ∧ b ≤ k) → ¬ (o = 274 ∧ k = r) → I' o k = I o k)) K P J T 0 0 49 [(0, vR (some 100)), (1, vI x), (2, vI (w : Int)), (3, vI b), (4, vI (b + (wk (I 257 x) w : Int) * (k : Int) + (wk (I 257 x) c : Int))), (5, vI (k : Int)), (6, vI (c : Int))] [] := by
        intro j
        induction j with
        | zero =>
          intro c T hc hT
          have ec : c = w := by omega
          subst ec
          have nx := ih (k + 1) T (by omega) (KC.row hT0 hT)
          rw [ek, Int.mul_add, Int.mul_one, ← Int.add_assoc] at nx
          clear ih hT hT0
          refine VW.iload (pc' := 51) d_Model_keeps_49 rfl rfl ?_
          refine VW.iload_n (pc' := 52) d_Model_keeps_51 rfl rfl ?_
          refine VW.icmp_ge (tgt := 100) (pc' := 55) d_Model_keeps_52 rfl rfl (fun c52 => ?_) (fun c52 => ?_)
          · refine VW.iinc (pc' := 103) d_Model_keeps_100 rfl rfl rfl (by omega) ?_
            refine VW.goto (pc' := 30) d_Model_keeps_103 rfl ?_
            refine VW.pick [0, 1, 2, 3, 4, 5] ?_
            exact nx
          · exfalso; omega
        | succ j ihc =>
          intro c T hc hT
          have g257 : T 257 x = I 257 x := (hT.2.2 257 x (by omega)).trans (hT0.2.2 257 x (by omega))
          have gv : T 270 (b + (w : Int) * (k : Int) + (c : Int)) = I 270 (b + (w : Int) * (k : Int) + (c : Int)) := hT.2.1 _ (by omega)
          have wc := @wk_le (I 257 x) c
          have ec : ((c + 1 : Nat) : Int) = (c : Int) + 1 := by omega
          have rs : inR (I 257 x) := ⟨by omega, by omega⟩
          have d1 := divN (m := c) rs
          have d2 := divP (m := c) hs.1
          have nY : I 257 x / 2 ^ c % 2 = 1 → VW m_Model_keeps false (rmv 1 22) (exU K P J (.inl none) (fun I' => (seg I' 270 b (wk (I 257 x) w) n = keepL (I 257 x) w (seg I 270 b w n) ∧ I' 274 r = wk (I 257 x) w) ∧ ∀ (o : Nat) (k : Int), ¬ (o = 270 ∧ b ≤ k) → ¬ (o = 274 ∧ k = r) → I' o k = I o k)) K P J (up2 T 270 (b + (wk (I 257 x) w : Int) * (k : Int) + (wk (I 257 x) c : Int)) (I 270 (b + (w : Int) * (k : Int) + (c : Int)))) 0 0 49 [(0, vR (some 100)), (1, vI x), (2, vI (w : Int)), (3, vI b), (4, vI (b + (wk (I 257 x) w : Int) * (k : Int) + (wk (I 257 x) c : Int) + 1)), (5, vI (k : Int)), (6, vI ((c : Int) + 1))] [] := fun z => by
            have nx := ihc (c + 1) _ (by omega) (hT.yes (by omega) z)
            rw [wk_yes z, ec, show ((wk (I 257 x) c + 1 : Nat) : Int) = (wk (I 257 x) c : Int) + 1 by omega, ← Int.add_assoc] at nx
            exact nx
          have nN : I 257 x / 2 ^ c % 2 ≠ 1 → VW m_Model_keeps false (rmv 1 22) (exU K P J (.inl none) (fun I' => (seg I' 270 b (wk (I 257 x) w) n = keepL (I 257 x) w (seg I 270 b w n) ∧ I' 274 r = wk (I 257 x) w) ∧ ∀ (o : Nat) (k : Int), ¬ (o = 270 ∧ b ≤ k) → ¬ (o = 274 ∧ k = r) → I' o k = I o k)) K P J T 0 0 49 [(0, vR (some 100)), (1, vI x), (2, vI (w : Int)), (3, vI b), (4, vI (b + (wk (I 257 x) w : Int) * (k : Int) + (wk (I 257 x) c : Int))), (5, vI (k : Int)), (6, vI ((c : Int) + 1))] [] := fun z => by
            have nx := ihc (c + 1) _ (by omega) (hT.no z)
            rw [wk_no z, ec] at nx
            exact nx
          clear ihc ih hT hT0
          refine VW.iload (pc' := 51) d_Model_keeps_49 rfl rfl ?_
          refine VW.iload_n (pc' := 52) d_Model_keeps_51 rfl rfl ?_
          refine VW.icmp_ge (tgt := 100) (pc' := 55) d_Model_keeps_52 rfl rfl (fun c52 => ?_) (fun c52 => ?_)
          · exfalso; omega
          · refine VW.aload_n (pc' := 56) d_Model_keeps_55 rfl rfl ?_
            refine VW.gP (ci := 11) (T := T11) (N := 94) (k := 57) (k' := 57) (pc' := 59) d_Model_keeps_56 rfl lk_Model_147 in11 rfl rfl rfl rfl (hM.k rfl) (hM.p (r := some 257) 57 rfl rfl) ?_
            refine VW.iload_n (pc' := 60) d_Model_keeps_59 rfl rfl ?_
            refine VW.ild (pc' := 61) d_Model_keeps_60 rfl (hM.k rfl) (by omega) (by omega) (by first | exact g71 | exact g273 | exact g257 | exact gv | rfl) ?_
            refine VW.iload (pc' := 63) d_Model_keeps_61 rfl rfl ?_
            refine VW.ishr (pc' := 64) (z := I 257 x / 2 ^ c) d_Model_keeps_63 rfl (d1) (ishrN rs (by omega)) ?_
            refine VW.iconst (pc' := 65) d_Model_keeps_64 rfl (by decide) ?_
            refine VW.iand (pc' := 66) (z := I 257 x / 2 ^ c % 2) d_Model_keeps_65 rfl (⟨by omega, by omega⟩) (iand1 d2 (by omega)) ?_
            refine VW.iconst (pc' := 67) d_Model_keeps_66 rfl (by decide) ?_
            refine VW.icmp_ne (tgt := 94) (pc' := 70) d_Model_keeps_67 rfl rfl (fun c67 => ?_) (fun c67 => ?_)
            · refine VW.iinc (pc' := 97) d_Model_keeps_94 rfl rfl rfl (by omega) ?_
              refine VW.goto (pc' := 49) d_Model_keeps_97 rfl ?_
              refine VW.nrm ?_
              first | exact nY c67 | exact nN c67
            · refine VW.aload_n (pc' := 71) d_Model_keeps_70 rfl rfl ?_
              refine VW.gP (ci := 11) (T := T11) (N := 94) (k := 70) (k' := 70) (pc' := 74) d_Model_keeps_71 rfl lk_Model_178 in11 rfl rfl rfl rfl (hM.k rfl) (hM.p (r := some 270) 70 rfl rfl) ?_
              refine VW.iload (pc' := 76) d_Model_keeps_74 rfl rfl ?_
              refine VW.aload_n (pc' := 77) d_Model_keeps_76 rfl rfl ?_
              refine VW.gP (ci := 11) (T := T11) (N := 94) (k := 70) (k' := 70) (pc' := 80) d_Model_keeps_77 rfl lk_Model_178 in11 rfl rfl rfl rfl (hM.k rfl) (hM.p (r := some 270) 70 rfl rfl) ?_
              refine VW.iload_n (pc' := 81) d_Model_keeps_80 rfl rfl ?_
              refine VW.iload_n (pc' := 82) d_Model_keeps_81 rfl rfl ?_
              refine VW.iload (pc' := 84) d_Model_keeps_82 rfl rfl ?_
              refine VW.imul (pc' := 85) d_Model_keeps_84 rfl (by omega) ?_
              refine VW.iadd (pc' := 86) d_Model_keeps_85 rfl (by omega) ?_
              refine VW.iload (pc' := 88) d_Model_keeps_86 rfl rfl ?_
              refine VW.iadd (pc' := 89) d_Model_keeps_88 rfl (by omega) ?_
              refine VW.ild (pc' := 90) d_Model_keeps_89 rfl (hM.k rfl) (by omega) (by omega) (by first | exact g71 | exact g273 | exact g257 | exact gv | rfl) ?_
              refine VW.iast (pc' := 91) d_Model_keeps_90 rfl (hM.k rfl) (by omega) (by omega) ?_
              refine VW.iinc (pc' := 94) d_Model_keeps_91 rfl rfl rfl (by omega) ?_
              refine VW.iinc (pc' := 97) d_Model_keeps_94 rfl rfl rfl (by omega) ?_
              refine VW.goto (pc' := 49) d_Model_keeps_97 rfl ?_
              refine VW.nrm ?_
              first | exact nY c67 | exact nN c67
      have cs := cols w 0 T0 (by omega) (KC.start hT0)
      rw [show ((wk (I 257 x) 0 : Nat) : Int) = 0 from rfl, Int.add_zero] at cs
      clear cols ih hT0
      refine VW.iload (pc' := 32) d_Model_keeps_30 rfl rfl ?_
      refine VW.aload_n (pc' := 33) d_Model_keeps_32 rfl rfl ?_
      refine VW.gP (ci := 11) (T := T11) (N := 94) (k := 73) (k' := 73) (pc' := 36) d_Model_keeps_33 rfl lk_Model_184 in11 rfl rfl rfl rfl (hM.k rfl) (hM.p (r := some 273) 73 rfl rfl) ?_
      refine VW.aload_n (pc' := 37) d_Model_keeps_36 rfl rfl ?_
      refine VW.gI (ci := 11) (T := T11) (N := 94) (k := 71) (k' := 71) (pc' := 40) d_Model_keeps_37 rfl lk_Model_434 in11 rfl rfl rfl rfl (hM.k rfl) (by first | exact g71 | exact g273 | exact g257 | exact gv | rfl) ?_
      refine VW.iconst (pc' := 41) d_Model_keeps_40 rfl (by decide) ?_
      refine VW.isub (pc' := 42) d_Model_keeps_41 rfl (by omega) ?_
      refine VW.ild (pc' := 43) d_Model_keeps_42 rfl (hM.k rfl) (by omega) (by omega) (by first | exact g71 | exact g273 | exact g257 | exact gv | rfl) ?_
      refine VW.icmp_ge (tgt := 106) (pc' := 46) d_Model_keeps_43 rfl rfl (fun c43 => ?_) (fun c43 => ?_)
      · exfalso; omega
      · refine VW.iconst (pc' := 47) d_Model_keeps_46 rfl (by decide) ?_
        refine VW.istore (pc' := 49) d_Model_keeps_47 rfl rfl ?_
        refine VW.nrm ?_
        exact cs
  have l := loop n 0 I (by omega) ⟨rfl, fun q _ => rfl, fun o q _ => rfl⟩
  rw [show (((0 : Nat) : Int)) = 0 from rfl, Int.mul_zero, Int.add_zero] at l
  have hw2 : I 274 (r + 1 - 1) = w := by rw [show r + 1 - 1 = r by omega]; exact hw
  have hb2 : I 272 (r + 1 - 1) = b := by rw [show r + 1 - 1 = r by omega]; exact hb
  clear loop
  refine VW.aload_n (pc' := 1) d_Model_keeps_0 rfl rfl ?_
  refine VW.gP (ci := 11) (T := T11) (N := 94) (k := 74) (k' := 74) (pc' := 4) d_Model_keeps_1 rfl lk_Model_187 in11 rfl rfl rfl rfl (hM.k rfl) (hM.p (r := some 274) 74 rfl rfl) ?_
  refine VW.aload_n (pc' := 5) d_Model_keeps_4 rfl rfl ?_
  refine VW.gI (ci := 11) (T := T11) (N := 94) (k := 71) (k' := 71) (pc' := 8) d_Model_keeps_5 rfl lk_Model_434 in11 rfl rfl rfl rfl (hM.k rfl) (by first | exact hr | exact hw2 | exact hb2 | rfl) ?_
  refine VW.iconst (pc' := 9) d_Model_keeps_8 rfl (by decide) ?_
  refine VW.isub (pc' := 10) d_Model_keeps_9 rfl (by omega) ?_
  refine VW.ild (pc' := 11) d_Model_keeps_10 rfl (hM.k rfl) (by omega) (by omega) (by first | exact hr | exact hw2 | exact hb2 | rfl) ?_
  refine VW.istore_n (pc' := 12) d_Model_keeps_11 rfl rfl ?_
  refine VW.aload_n (pc' := 13) d_Model_keeps_12 rfl rfl ?_
  refine VW.gP (ci := 11) (T := T11) (N := 94) (k := 72) (k' := 72) (pc' := 16) d_Model_keeps_13 rfl lk_Model_181 in11 rfl rfl rfl rfl (hM.k rfl) (hM.p (r := some 272) 72 rfl rfl) ?_
  refine VW.aload_n (pc' := 17) d_Model_keeps_16 rfl rfl ?_
  refine VW.gI (ci := 11) (T := T11) (N := 94) (k := 71) (k' := 71) (pc' := 20) d_Model_keeps_17 rfl lk_Model_434 in11 rfl rfl rfl rfl (hM.k rfl) (by first | exact hr | exact hw2 | exact hb2 | rfl) ?_
  refine VW.iconst (pc' := 21) d_Model_keeps_20 rfl (by decide) ?_
  refine VW.isub (pc' := 22) d_Model_keeps_21 rfl (by omega) ?_
  refine VW.ild (pc' := 23) d_Model_keeps_22 rfl (hM.k rfl) (by omega) (by omega) (by first | exact hr | exact hw2 | exact hb2 | rfl) ?_
  refine VW.istore_n (pc' := 24) d_Model_keeps_23 rfl rfl ?_
  refine VW.iload_n (pc' := 25) d_Model_keeps_24 rfl rfl ?_
  refine VW.istore (pc' := 27) d_Model_keeps_25 rfl rfl ?_
  refine VW.iconst (pc' := 28) d_Model_keeps_27 rfl (by decide) ?_
  refine VW.istore (pc' := 30) d_Model_keeps_28 rfl rfl ?_
  refine VW.nrm ?_
  exact l
/-- rows made behind the results take the place of the last d of them -/
def mTakes (I : IT) (m n w d : Int) : IT := up2 (up2 (up2 (cpyI I 270 m 270 (I 272 (I 100 71 - d)) (n * w)) 100 71 (I 100 71 - (d - 1))) 273 (I 100 71 - (d - 1) - 1) n) 274 (I 100 71 - (d - 1) - 1) w
theorem sp_Model_takes {m n w d : Int} (hM : MW K P) (hd : 1 ≤ d ∧ d ≤ 2) (h0 : d ≤ I 100 71 ∧ I 100 71 ≤ 12) (hb : 0 ≤ I 272 (I 100 71 - d) ∧ I 272 (I 100 71 - d) ≤ m) (hm : m ≤ 700000) (hn : 0 ≤ n ∧ n ≤ 1000) (hw : 0 ≤ w ∧ w ≤ 10) : Sp m_Model_takes false (rmv 0 0) (ex K P J (mTakes I m n w d) (.inl none)) K P J I [vR (some 100), vI m, vI n, vI w, vI d] := by
  refine Sp.ofV (by decide) (Or.inr rfl) rfl ?_
  have p0 := mulNN hn.1 hw.1
  have p1 : n * w ≤ 1000 * 10 := mulUp hn.1 hw.1 hn.2 hw.2
  have loop : ∀ (l : Nat) (c : Int), c + l = n * w → 0 ≤ c → VW m_Model_takes false (rmv 0 0) (ex K P J (mTakes I m n w d) (.inl none)) K P J (cpyI I 270 m 270 (I 272 (I 100 71 - d)) c) 0 0 17 [(0, vR (some 100)), (1, vI m), (2, vI n), (3, vI w), (4, vI d), (5, vI (I 272 (I 100 71 - d))), (6, vI c)] [] := by
    intro l
    induction l with
    | zero =>
      intro c hc h2
      have ec : c = n * w := by omega
      subst ec
      refine VW.iload (pc' := 19) d_Model_takes_17 rfl rfl ?_
      refine VW.iload_n (pc' := 20) d_Model_takes_19 rfl rfl ?_
      refine VW.iload_n (pc' := 21) d_Model_takes_20 rfl rfl ?_
      refine VW.imul (pc' := 22) d_Model_takes_21 rfl (by omega) ?_
      refine VW.icmp_ge (tgt := 50) (pc' := 25) d_Model_takes_22 rfl rfl (fun c22 => ?_) (fun c22 => ?_)
      · refine VW.aload_n (pc' := 51) d_Model_takes_50 rfl rfl ?_
        refine VW.dup (pc' := 52) d_Model_takes_51 rfl rfl ?_
        refine VW.gI (ci := 11) (T := T11) (N := 94) (k := 71) (k' := 71) (pc' := 55) d_Model_takes_52 rfl lk_Model_434 in11 rfl rfl rfl rfl (hM.k rfl) (by first | exact up2_eq _ _ _ _ | exact cpyI_out (Or.inl (by decide)) | exact (up2_o _ _ _ _ (by decide)).trans (up2_eq _ _ _ _) | rfl) ?_
        refine VW.iload (pc' := 57) d_Model_takes_55 rfl rfl ?_
        refine VW.iconst (pc' := 58) d_Model_takes_57 rfl (by decide) ?_
        refine VW.isub (pc' := 59) d_Model_takes_58 rfl (by omega) ?_
        refine VW.isub (pc' := 60) d_Model_takes_59 rfl (by omega) ?_
        refine VW.pI (ci := 11) (T := T11) (N := 94) (k := 71) (k' := 71) (ty := ty11) (pc' := 63) d_Model_takes_60 rfl lk_Model_434 in11 tk11 nm11 rfl rfl rfl rfl rfl rfl (hM.k rfl) ?_
        refine VW.aload_n (pc' := 64) d_Model_takes_63 rfl rfl ?_
        refine VW.gP (ci := 11) (T := T11) (N := 94) (k := 73) (k' := 73) (pc' := 67) d_Model_takes_64 rfl lk_Model_184 in11 rfl rfl rfl rfl (hM.k rfl) (hM.p (r := some 273) 73 rfl rfl) ?_
        refine VW.aload_n (pc' := 68) d_Model_takes_67 rfl rfl ?_
        refine VW.gI (ci := 11) (T := T11) (N := 94) (k := 71) (k' := 71) (pc' := 71) d_Model_takes_68 rfl lk_Model_434 in11 rfl rfl rfl rfl (hM.k rfl) (by first | exact up2_eq _ _ _ _ | exact cpyI_out (Or.inl (by decide)) | exact (up2_o _ _ _ _ (by decide)).trans (up2_eq _ _ _ _) | rfl) ?_
        refine VW.iconst (pc' := 72) d_Model_takes_71 rfl (by decide) ?_
        refine VW.isub (pc' := 73) d_Model_takes_72 rfl (by omega) ?_
        refine VW.iload_n (pc' := 74) d_Model_takes_73 rfl rfl ?_
        refine VW.iast (pc' := 75) d_Model_takes_74 rfl (hM.k rfl) (by omega) (by omega) ?_
        refine VW.aload_n (pc' := 76) d_Model_takes_75 rfl rfl ?_
        refine VW.gP (ci := 11) (T := T11) (N := 94) (k := 74) (k' := 74) (pc' := 79) d_Model_takes_76 rfl lk_Model_187 in11 rfl rfl rfl rfl (hM.k rfl) (hM.p (r := some 274) 74 rfl rfl) ?_
        refine VW.aload_n (pc' := 80) d_Model_takes_79 rfl rfl ?_
        refine VW.gI (ci := 11) (T := T11) (N := 94) (k := 71) (k' := 71) (pc' := 83) d_Model_takes_80 rfl lk_Model_434 in11 rfl rfl rfl rfl (hM.k rfl) (by first | exact up2_eq _ _ _ _ | exact cpyI_out (Or.inl (by decide)) | exact (up2_o _ _ _ _ (by decide)).trans (up2_eq _ _ _ _) | rfl) ?_
        refine VW.iconst (pc' := 84) d_Model_takes_83 rfl (by decide) ?_
        refine VW.isub (pc' := 85) d_Model_takes_84 rfl (by omega) ?_
        refine VW.iload_n (pc' := 86) d_Model_takes_85 rfl rfl ?_
        refine VW.iast (pc' := 87) d_Model_takes_86 rfl (hM.k rfl) (by omega) (by omega) ?_
        exact VW.vret d_Model_takes_87 rfl (Nat.zero_le _) (Nat.zero_le _) ex_rf
      · exfalso; omega
    | succ l ih =>
      intro c hc h2
      have nx := ih (c + 1) (by omega) (by omega)
      rw [← cpyI_stepG (I := I) (s := 270) (a := 270) h2 (cpyI_out (Or.inr (Or.inr (by omega))))] at nx
      clear ih
      refine VW.iload (pc' := 19) d_Model_takes_17 rfl rfl ?_
      refine VW.iload_n (pc' := 20) d_Model_takes_19 rfl rfl ?_
      refine VW.iload_n (pc' := 21) d_Model_takes_20 rfl rfl ?_
      refine VW.imul (pc' := 22) d_Model_takes_21 rfl (by omega) ?_
      refine VW.icmp_ge (tgt := 50) (pc' := 25) d_Model_takes_22 rfl rfl (fun c22 => ?_) (fun c22 => ?_)
      · exfalso; omega
      · refine VW.aload_n (pc' := 26) d_Model_takes_25 rfl rfl ?_
        refine VW.gP (ci := 11) (T := T11) (N := 94) (k := 70) (k' := 70) (pc' := 29) d_Model_takes_26 rfl lk_Model_178 in11 rfl rfl rfl rfl (hM.k rfl) (hM.p (r := some 270) 70 rfl rfl) ?_
        refine VW.iload (pc' := 31) d_Model_takes_29 rfl rfl ?_
        refine VW.iload (pc' := 33) d_Model_takes_31 rfl rfl ?_
        refine VW.iadd (pc' := 34) d_Model_takes_33 rfl (by omega) ?_
        refine VW.aload_n (pc' := 35) d_Model_takes_34 rfl rfl ?_
        refine VW.gP (ci := 11) (T := T11) (N := 94) (k := 70) (k' := 70) (pc' := 38) d_Model_takes_35 rfl lk_Model_178 in11 rfl rfl rfl rfl (hM.k rfl) (hM.p (r := some 270) 70 rfl rfl) ?_
        refine VW.iload_n (pc' := 39) d_Model_takes_38 rfl rfl ?_
        refine VW.iload (pc' := 41) d_Model_takes_39 rfl rfl ?_
        refine VW.iadd (pc' := 42) d_Model_takes_41 rfl (by omega) ?_
        refine VW.ild (pc' := 43) d_Model_takes_42 rfl (hM.k rfl) (by omega) (by omega) (by first | exact cpyI_out (Or.inr (Or.inr (by omega))) | rfl) ?_
        refine VW.iast (pc' := 44) d_Model_takes_43 rfl (hM.k rfl) (by omega) (by omega) ?_
        refine VW.iinc (pc' := 47) d_Model_takes_44 rfl rfl rfl (by omega) ?_
        refine VW.goto (pc' := 17) d_Model_takes_47 rfl ?_
        refine VW.nrm ?_
        exact nx
  have l := loop (n * w).toNat 0 (by omega) (by omega)
  rw [cpyI_0] at l
  clear loop
  refine VW.aload_n (pc' := 1) d_Model_takes_0 rfl rfl ?_
  refine VW.gP (ci := 11) (T := T11) (N := 94) (k := 72) (k' := 72) (pc' := 4) d_Model_takes_1 rfl lk_Model_181 in11 rfl rfl rfl rfl (hM.k rfl) (hM.p (r := some 272) 72 rfl rfl) ?_
  refine VW.aload_n (pc' := 5) d_Model_takes_4 rfl rfl ?_
  refine VW.gI (ci := 11) (T := T11) (N := 94) (k := 71) (k' := 71) (pc' := 8) d_Model_takes_5 rfl lk_Model_434 in11 rfl rfl rfl rfl (hM.k rfl) (by first | assumption | (simp [up2] <;> rfl) | rfl) ?_
  refine VW.iload (pc' := 10) d_Model_takes_8 rfl rfl ?_
  refine VW.isub (pc' := 11) d_Model_takes_10 rfl (by omega) ?_
  refine VW.ild (pc' := 12) d_Model_takes_11 rfl (hM.k rfl) (by omega) (by omega) (by first | assumption | (simp [up2] <;> rfl) | rfl) ?_
  refine VW.istore (pc' := 14) d_Model_takes_12 rfl rfl ?_
  refine VW.iconst (pc' := 15) d_Model_takes_14 rfl (by decide) ?_
  refine VW.istore (pc' := 17) d_Model_takes_15 rfl rfl ?_
  refine VW.nrm ?_
  exact l
/-- what a group has, with a value more -/
def gath (how had v : Int) : Int := if how = 0 then had + 1 else if v = -2147483648 then had else if had = -2147483648 then v else if how = 1 then had + v else if how = 2 then (if had < v then had else v) else (if v < had then had else v)
theorem sp_Model_gathered {how had v : Int} (h0 : how = 0 → inR (had + 1)) (h1 : how = 1 → v ≠ -2147483648 → had ≠ -2147483648 → inR (had + v)) : Sp m_Model_gathered false (rmv 1 21) (ex K P J I (.inl (some (vI (gath how had v))))) K P J I [vI how, vI had, vI v] := by
  refine Sp.ofV (by decide) (Or.inr rfl) rfl ?_
  refine VW.iload_n (pc' := 1) d_Model_gathered_0 rfl rfl ?_
  refine VW.if_ne (tgt := 8) (pc' := 4) d_Model_gathered_1 rfl rfl (fun c1 => ?_) (fun c1 => ?_)
  · try have e1 := bIn c1
    refine VW.iload_n (pc' := 9) d_Model_gathered_8 rfl rfl ?_
    refine VW.ldc (pc' := 11) (z := -2147483648) d_Model_gathered_9 rfl lk_Model_246 (by decide) (by decide) ?_
    refine VW.icmp_eq (tgt := 20) (pc' := 14) d_Model_gathered_11 rfl rfl (fun c11 => ?_) (fun c11 => ?_)
    · refine VW.iload_n (pc' := 21) d_Model_gathered_20 rfl rfl ?_
      refine VW.ldc (pc' := 23) (z := -2147483648) d_Model_gathered_21 rfl lk_Model_246 (by decide) (by decide) ?_
      refine VW.icmp_ne (tgt := 30) (pc' := 26) d_Model_gathered_23 rfl rfl (fun c23 => ?_) (fun c23 => ?_)
      · refine VW.iload_n (pc' := 31) d_Model_gathered_30 rfl rfl ?_
        exact VW.iret d_Model_gathered_31 rfl rfl (Nat.zero_le _) (Nat.zero_le _) (by first | (exfalso; omega) | (refine ex_v ?_; unfold gath; (repeat' split) <;> first | rfl | omega | (exfalso; omega)))
      · refine VW.iload_n (pc' := 27) d_Model_gathered_26 rfl rfl ?_
        refine VW.goto (pc' := 31) d_Model_gathered_27 rfl ?_
        exact VW.iret d_Model_gathered_31 rfl rfl (Nat.zero_le _) (Nat.zero_le _) (by first | (exfalso; omega) | (refine ex_v ?_; unfold gath; (repeat' split) <;> first | rfl | omega | (exfalso; omega)))
    · refine VW.iload_n (pc' := 15) d_Model_gathered_14 rfl rfl ?_
      refine VW.ldc (pc' := 17) (z := -2147483648) d_Model_gathered_15 rfl lk_Model_246 (by decide) (by decide) ?_
      refine VW.icmp_ne (tgt := 32) (pc' := 20) d_Model_gathered_17 rfl rfl (fun c17 => ?_) (fun c17 => ?_)
      · refine VW.iload_n (pc' := 33) d_Model_gathered_32 rfl rfl ?_
        refine VW.iconst (pc' := 34) d_Model_gathered_33 rfl (by decide) ?_
        refine VW.icmp_ne (tgt := 43) (pc' := 37) d_Model_gathered_34 rfl rfl (fun c34 => ?_) (fun c34 => ?_)
        · refine VW.iload_n (pc' := 44) d_Model_gathered_43 rfl rfl ?_
          refine VW.iconst (pc' := 45) d_Model_gathered_44 rfl (by decide) ?_
          refine VW.icmp_ne (tgt := 56) (pc' := 48) d_Model_gathered_45 rfl rfl (fun c45 => ?_) (fun c45 => ?_)
          · refine VW.iload_n (pc' := 57) d_Model_gathered_56 rfl rfl ?_
            refine VW.iload_n (pc' := 58) d_Model_gathered_57 rfl rfl ?_
            refine VW.icmp_le (tgt := 65) (pc' := 61) d_Model_gathered_58 rfl rfl (fun c58 => ?_) (fun c58 => ?_)
            · refine VW.iload_n (pc' := 66) d_Model_gathered_65 rfl rfl ?_
              exact VW.iret d_Model_gathered_66 rfl rfl (Nat.zero_le _) (Nat.zero_le _) (by first | (exfalso; omega) | (refine ex_v ?_; unfold gath; (repeat' split) <;> first | rfl | omega | (exfalso; omega)))
            · refine VW.iload_n (pc' := 62) d_Model_gathered_61 rfl rfl ?_
              refine VW.goto (pc' := 66) d_Model_gathered_62 rfl ?_
              exact VW.iret d_Model_gathered_66 rfl rfl (Nat.zero_le _) (Nat.zero_le _) (by first | (exfalso; omega) | (refine ex_v ?_; unfold gath; (repeat' split) <;> first | rfl | omega | (exfalso; omega)))
          · refine VW.iload_n (pc' := 49) d_Model_gathered_48 rfl rfl ?_
            refine VW.iload_n (pc' := 50) d_Model_gathered_49 rfl rfl ?_
            refine VW.cS (pc' := 53) d_Model_gathered_50 rfl ms_Model_least lk_Model_453 rfl rfl rfl (Nat.le_refl _) (Nat.le_refl _) (sp_Model_least) rfl rfl ?_
            refine VW.goto (pc' := 66) d_Model_gathered_53 rfl ?_
            exact VW.iret d_Model_gathered_66 rfl rfl (Nat.zero_le _) (Nat.zero_le _) (by first | (exfalso; omega) | (refine ex_v ?_; unfold gath; (repeat' split) <;> first | rfl | omega | (exfalso; omega)))
        · refine VW.iload_n (pc' := 38) d_Model_gathered_37 rfl rfl ?_
          refine VW.iload_n (pc' := 39) d_Model_gathered_38 rfl rfl ?_
          refine VW.iadd (pc' := 40) d_Model_gathered_39 rfl (by first | exact h0 (by omega) | exact h1 (by omega) (by omega) (by omega)) ?_
          refine VW.goto (pc' := 66) d_Model_gathered_40 rfl ?_
          exact VW.iret d_Model_gathered_66 rfl rfl (Nat.zero_le _) (Nat.zero_le _) (by first | (exfalso; omega) | (refine ex_v ?_; unfold gath; (repeat' split) <;> first | rfl | omega | (exfalso; omega)))
      · refine VW.iload_n (pc' := 21) d_Model_gathered_20 rfl rfl ?_
        refine VW.ldc (pc' := 23) (z := -2147483648) d_Model_gathered_21 rfl lk_Model_246 (by decide) (by decide) ?_
        refine VW.icmp_ne (tgt := 30) (pc' := 26) d_Model_gathered_23 rfl rfl (fun c23 => ?_) (fun c23 => ?_)
        · refine VW.iload_n (pc' := 31) d_Model_gathered_30 rfl rfl ?_
          exact VW.iret d_Model_gathered_31 rfl rfl (Nat.zero_le _) (Nat.zero_le _) (by first | (exfalso; omega) | (refine ex_v ?_; unfold gath; (repeat' split) <;> first | rfl | omega | (exfalso; omega)))
        · refine VW.iload_n (pc' := 27) d_Model_gathered_26 rfl rfl ?_
          refine VW.goto (pc' := 31) d_Model_gathered_27 rfl ?_
          exact VW.iret d_Model_gathered_31 rfl rfl (Nat.zero_le _) (Nat.zero_le _) (by first | (exfalso; omega) | (refine ex_v ?_; unfold gath; (repeat' split) <;> first | rfl | omega | (exfalso; omega)))
  · try have e1 := bIe c1
    refine VW.iload_n (pc' := 5) d_Model_gathered_4 rfl rfl ?_
    refine VW.iconst (pc' := 6) d_Model_gathered_5 rfl (by decide) ?_
    refine VW.iadd (pc' := 7) d_Model_gathered_6 rfl (by first | exact h0 (by omega) | exact h1 (by omega) (by omega) (by omega)) ?_
    exact VW.iret d_Model_gathered_7 rfl rfl (Nat.zero_le _) (Nat.zero_le _) (by first | (exfalso; omega) | (refine ex_v ?_; unfold gath; (repeat' split) <;> first | rfl | omega | (exfalso; omega)))
end
