section
variable {K : KT} {P : PT} {J I : IT}
theorem seg_add {a w m n : Nat} {b : Int} : seg I a b w (m + n) = seg I a b w m ++ seg I a (b + (w : Int) * (m : Int)) w n := by
  induction n with
  | zero => rw [seg_0, List.append_nil]; rfl
  | succ n ih =>
    rw [← Nat.add_assoc, seg_succ, ih, seg_succ, List.append_assoc]
    congr 3
    rw [show ((m + n : Nat) : Int) = (m : Int) + (n : Int) by omega, Int.mul_add]
    congr 1
    omega
def gInit (how : Int) : Int := if how = 0 then 0 else -2147483648
/-- groups with a row more: those of its key get its value -/
def gUpd (how key v : Int) : List (List Int) → List (List Int)
  | [] => [[key, gath how (gInit how) v]]
  | r :: rs => if nth r 0 = key then [nth r 0, gath how (nth r 1) v] :: rs else r :: gUpd how key v rs
theorem gUpd_new {how key v : Int} {A : List (List Int)} (h : ∀ r ∈ A, nth r 0 ≠ key) : gUpd how key v A = A ++ [[key, gath how (gInit how) v]] := by
  induction A with
  | nil => rfl
  | cons r rs ih =>
    unfold gUpd
    rw [if_neg (h r (List.mem_cons_self)), ih (fun z hz => h z (List.mem_cons_of_mem _ hz))]; rfl
theorem gUpd_at {how key v : Int} {A B : List (List Int)} {r : List Int} (h : ∀ r ∈ A, nth r 0 ≠ key) (hr : nth r 0 = key) : gUpd how key v (A ++ r :: B) = A ++ [key, gath how (nth r 1) v] :: B := by
  induction A with
  | nil =>
    show (if nth r 0 = key then [nth r 0, gath how (nth r 1) v] :: B else r :: gUpd how key v B) = _
    rw [if_pos hr, hr]; rfl
  | cons z rs ih =>
    show (if nth z 0 = key then _ else z :: gUpd how key v (rs ++ r :: B)) = _
    rw [if_neg (h z (List.mem_cons_self)), ih (fun y hy => h y (List.mem_cons_of_mem _ hy))]; rfl
def gStep (how A C : Int) (acc : List (List Int)) (r : List Int) : List (List Int) := gUpd how (if A = -1 then -2147483648 else nth r A) (if how = 0 then 0 else nth r C) acc
def g0 (how A : Int) : List (List Int) := if A = -1 then [[-2147483648, gInit how]] else []
def groupL (how A C : Int) (L : List (List Int)) : List (List Int) := L.foldl (gStep how A C) (g0 how A)
theorem groupL_snoc {how A C : Int} {L : List (List Int)} {r : List Int} : groupL how A C (L ++ [r]) = gStep how A C (groupL how A C L) r := by
  unfold groupL
  rw [List.foldl_append]; rfl
theorem gUpd_len {how key v : Int} {A : List (List Int)} : (gUpd how key v A).length ≤ A.length + 1 := by
  induction A with
  | nil => exact Nat.le_refl _
  | cons r rs ih =>
    unfold gUpd
    by_cases h : nth r 0 = key
    · rw [if_pos h]; exact Nat.le_succ _
    · rw [if_neg h]; exact Nat.succ_le_succ ih
theorem groupL_len {how A C : Int} : ∀ (L : List (List Int)) (acc : List (List Int)), (L.foldl (gStep how A C) acc).length ≤ acc.length + L.length := by
  intro L
  induction L with
  | nil => intro acc; exact Nat.le_refl _
  | cons r rs ih =>
    intro acc
    have a : (List.foldl (gStep how A C) (gStep how A C acc r) rs).length ≤ (gStep how A C acc r).length + rs.length := ih _
    have b : (gStep how A C acc r).length ≤ acc.length + 1 := gUpd_len
    show (List.foldl (gStep how A C) (gStep how A C acc r) rs).length ≤ acc.length + (rs.length + 1)
    omega
theorem g0_len {how A : Int} : (g0 how A).length ≤ 1 := by unfold g0; split <;> simp
theorem rowAt_2 {a : Nat} {b : Int} : rowAt I a b 2 = [I a b, I a (b + 1)] := by
  rw [show (2 : Nat) = 1 + 1 from rfl, rowAt_succ, rowAt_succ, rowAt_0]
  show [I a (b + 0), I a (b + 1)] = _
  rw [Int.add_zero]
/-- grouping: k rows are done, g groups are there -/
def GI (I T : IT) (b m how A C : Int) (w k g : Nat) : Prop :=
  seg T 270 m 2 g = groupL how A C (seg I 270 b w k) ∧ (∀ (o : Nat) (q : Int), ¬ (o = 270 ∧ m ≤ q) → T o q = I o q)
theorem GI.len {T : IT} {b m how A C : Int} {w k g : Nat} (h : GI I T b m how A C w k g) : g ≤ k + 1 := by
  have a := groupL_len (how := how) (A := A) (C := C) (seg I 270 b w k) (g0 how A)
  have e := congrArg List.length h.1
  have c := @g0_len how A
  rw [seg_len] at e a
  unfold groupL at e
  omega
theorem GI.found {T : IT} {b m how A C key v : Int} {w k g j : Nat} (h : GI I T b m how A C w k g) (hj : j < g) (hlt : ∀ i : Nat, i < j → T 270 (m + 2 * (i : Int)) ≠ key) (hk : T 270 (m + 2 * (j : Int)) = key) (ek : key = if A = -1 then -2147483648 else nth (rowAt I 270 (b + (w : Int) * (k : Int)) w) A) (ev : v = if how = 0 then 0 else nth (rowAt I 270 (b + (w : Int) * (k : Int)) w) C) :
    GI I (up2 T 270 (m + 2 * (j : Int) + 1) (gath how (T 270 (m + 2 * (j : Int) + 1)) v)) b m how A C w (k + 1) g := by
  refine ⟨?_, fun o q hq => (if_neg (by omega)).trans (h.2 o q hq)⟩
  rw [seg_succ, groupL_snoc]
  unfold gStep
  rw [← ek, ← ev, ← h.1]
  have eg : g = j + (1 + (g - j - 1)) := by omega
  generalize g - j - 1 = d at eg
  subst eg
  rw [seg_add, seg_add (m := j), seg_add (m := 1), seg_add (m := 1)]
  have e1 : ∀ X : IT, seg X 270 (m + ((2 : Nat) : Int) * (j : Int)) 2 1 = [[X 270 (m + 2 * (j : Int)), X 270 (m + 2 * (j : Int) + 1)]] := fun X => by
    rw [show (1 : Nat) = 0 + 1 from rfl, seg_succ, seg_0, rowAt_2]
    show [[_, _]] = _
    rw [show m + ((2 : Nat) : Int) * (j : Int) + ((2 : Nat) : Int) * ((0 : Nat) : Int) = m + 2 * (j : Int) by omega]
  rw [e1, e1]
  rw [show ([[T 270 (m + 2 * (j : Int)), T 270 (m + 2 * (j : Int) + 1)]] ++ seg T 270 (m + ((2 : Nat) : Int) * (j : Int) + ((2 : Nat) : Int) * ((1 : Nat) : Int)) 2 d) = [T 270 (m + 2 * (j : Int)), T 270 (m + 2 * (j : Int) + 1)] :: seg T 270 (m + ((2 : Nat) : Int) * (j : Int) + ((2 : Nat) : Int) * ((1 : Nat) : Int)) 2 d from rfl]
  rw [gUpd_at (fun r hr => by
    obtain ⟨i, h1, h2⟩ := seg_mem.1 hr
    rw [← h2, nth_rowAt (by omega) (by omega), Int.add_zero]
    exact hlt i h1) (by show T 270 (m + 2 * (j : Int)) = key; exact hk)]
  congr 1
  · exact seg_congr (fun q a c => up2_k _ _ _ _ (by omega))
  · show _ :: _ = _ :: _
    congr 1
    · rw [up2_k _ _ _ _ (by omega), up2_eq, hk]; rfl
    · exact seg_congr (fun q a c => up2_k _ _ _ _ (by omega))
theorem GI.new {T : IT} {b m how A C key v : Int} {w k g : Nat} (h : GI I T b m how A C w k g) (hlt : ∀ i : Nat, i < g → T 270 (m + 2 * (i : Int)) ≠ key) (ek : key = if A = -1 then -2147483648 else nth (rowAt I 270 (b + (w : Int) * (k : Int)) w) A) (ev : v = if how = 0 then 0 else nth (rowAt I 270 (b + (w : Int) * (k : Int)) w) C) :
    GI I (up2 (up2 (up2 T 270 (m + 2 * (g : Int)) key) 270 (m + 2 * (g : Int) + 1) (gInit how)) 270 (m + 2 * (g : Int) + 1) (gath how (gInit how) v)) b m how A C w (k + 1) (g + 1) := by
  refine ⟨?_, fun o q hq => (if_neg (by omega)).trans ((if_neg (by omega)).trans ((if_neg (by omega)).trans (h.2 o q hq)))⟩
  rw [seg_succ, seg_succ, groupL_snoc]
  unfold gStep
  rw [← ek, ← ev, ← h.1, gUpd_new (fun r hr => by
    obtain ⟨i, h1, h2⟩ := seg_mem.1 hr
    rw [← h2, nth_rowAt (by omega) (by omega), Int.add_zero]
    exact hlt i h1)]
  congr 1
  · exact seg_congr (fun q a c => by rw [up2_k _ _ _ _ (by omega), up2_k _ _ _ _ (by omega), up2_k _ _ _ _ (by omega)])
  · rw [rowAt_2, show m + ((2 : Nat) : Int) * (g : Int) = m + 2 * (g : Int) from rfl, up2_eq, up2_k _ _ _ _ (by omega), up2_k _ _ _ _ (by omega), up2_eq]
theorem sp_Model_groups {x r b : Int} {w n : Nat} (hM : MW K P) (hx : 0 ≤ x ∧ x < 252) (hr : I 100 71 = r + 1) (h0 : 0 ≤ r ∧ r < 12) (hw : I 274 r = w) (hn : I 273 r = n) (hb : I 272 r = b) (hp : 0 ≤ b ∧ b + (w : Int) * (n : Int) ≤ 600000) (hW : w ≤ 10) (hN : n ≤ 512) (hA : I 257 x = -1 ∨ (0 ≤ I 257 x ∧ I 257 x < w)) (hC : I 258 x = 0 ∨ (0 ≤ I 259 x ∧ I 259 x < w)) (hG : ∀ k : Nat, k < n → ∀ z ∈ groupL (I 258 x) (I 257 x) (I 259 x) (seg I 270 b w (k + 1)), inR (nth z 1)) : Sp m_Model_groups false (rmv 2 43) (exU K P J (.inl none) (fun I' => (I' 273 r = (groupL (I 258 x) (I 257 x) (I 259 x) (seg I 270 b w n)).length ∧ I' 274 r = 2 ∧ seg I' 270 b 2 (groupL (I 258 x) (I 257 x) (I 259 x) (seg I 270 b w n)).length = (groupL (I 258 x) (I 257 x) (I 259 x) (seg I 270 b w n))) ∧ ∀ (o : Nat) (q : Int), ¬ (o = 270 ∧ b ≤ q) → ¬ (o = 273 ∧ q = r) → ¬ (o = 274 ∧ q = r) → I' o q = I o q)) K P J I [vR (some 100), vI x] := by
  refine Sp.ofV (by decide) (Or.inr rfl) rfl ?_
  have hwn : (w : Int) * (n : Int) ≤ 10 * 512 := mulUp (by omega) (by omega) (by omega) (by omega)
  have hwn0 := mulNN (w := (w : Int)) (k := (n : Int)) (by omega) (by omega)
  obtain ⟨m, hm⟩ : ∃ m, m = b + (w : Int) * (n : Int) := ⟨_, rfl⟩
  have loop : ∀ (l k g : Nat) (T : IT), k + l = n → GI I T b m (I 258 x) (I 257 x) (I 259 x) w k g → VW m_Model_groups false (rmv 2 43) (exU K P J (.inl none) (fun I' => (I' 273 r = (groupL (I 258 x) (I 257 x) (I 259 x) (seg I 270 b w n)).length ∧ I' 274 r = 2 ∧ seg I' 270 b 2 (groupL (I 258 x) (I 257 x) (I 259 x) (seg I 270 b w n)).length = (groupL (I 258 x) (I 257 x) (I 259 x) (seg I 270 b w n))) ∧ ∀ (o : Nat) (q : Int), ¬ (o = 270 ∧ b ≤ q) → ¬ (o = 273 ∧ q = r) → ¬ (o = 274 ∧ q = r) → I' o q = I o q)) K P J T 0 0 82 [(0, vR (some 100)), (1, vI x), (2, vI (w : Int)), (3, vI b), (4, vI m), (5, vI (g : Int)), (6, vI (k : Int))] [] := by
    intro l
    induction l with
    | zero =>
      intro k g T hk hT
      have ek : k = n := by omega
      have gl := hT.len
      have fr := hT.2
      have g71 : T 100 71 = r + 1 := (fr 100 71 (by omega)).trans hr
      have g273 : T 273 (r + 1 - 1) = n := by rw [show r + 1 - 1 = r by omega, fr 273 r (by omega)]; exact hn
      have g272 : T 272 (T 100 71 - 1) = b := by rw [g71, show r + 1 - 1 = r by omega, fr 272 r (by omega)]; exact hb
      have fin : (mTakes T m g 2 1 273 r = (groupL (I 258 x) (I 257 x) (I 259 x) (seg I 270 b w n)).length ∧ mTakes T m g 2 1 274 r = 2 ∧ seg (mTakes T m g 2 1) 270 b 2 (groupL (I 258 x) (I 257 x) (I 259 x) (seg I 270 b w n)).length = (groupL (I 258 x) (I 257 x) (I 259 x) (seg I 270 b w n))) ∧ ∀ (o : Nat) (q : Int), ¬ (o = 270 ∧ b ≤ q) → ¬ (o = 273 ∧ q = r) → ¬ (o = 274 ∧ q = r) → mTakes T m g 2 1 o q = I o q := by
        rw [← ek, ← hT.1, seg_len]
        have e71 : T 100 71 - (1 - 1) - 1 = r := by omega
        unfold mTakes
        rw [e71, g272]
        refine ⟨⟨?_, up2_eq _ _ _ _, ?_⟩, fun o q h1 h2 h3 => ?_⟩
        · rw [up2_o _ _ _ _ (by decide), up2_eq]
        · refine seg_congr (fun q a c => ?_)
          rw [up2_o _ _ _ _ (by decide), up2_o _ _ _ _ (by decide), up2_o _ _ _ _ (by decide), cpyI_in (by omega) (by omega)]
          congr 1; omega
        · rw [show ∀ (X : IT) v, up2 X 274 r v o q = X o q from fun X v => if_neg h3, show ∀ (X : IT) v, up2 X 273 r v o q = X o q from fun X v => if_neg h2]
          by_cases e : o = 100 ∧ q = 71
          · rw [e.1, e.2, up2_eq, g71, hr]; omega
          · rw [show ∀ (X : IT) v, up2 X 100 71 v o q = X o q from fun X v => if_neg e, cpyI_out (by omega)]
            exact fr o q (by omega)
      clear hT fr hG
      refine VW.iload (pc' := 84) d_Model_groups_82 rfl rfl ?_
      refine VW.aload_n (pc' := 85) d_Model_groups_84 rfl rfl ?_
      refine VW.gP (ci := 11) (T := T11) (N := 94) (k := 73) (k' := 73) (pc' := 88) d_Model_groups_85 rfl lk_Model_184 in11 rfl rfl rfl rfl (hM.k rfl) (hM.p (r := some 273) 73 rfl rfl) ?_
      refine VW.aload_n (pc' := 89) d_Model_groups_88 rfl rfl ?_
      refine VW.gI (ci := 11) (T := T11) (N := 94) (k := 71) (k' := 71) (pc' := 92) d_Model_groups_89 rfl lk_Model_434 in11 rfl rfl rfl rfl (hM.k rfl) (by first | exact g71 | exact g273 | exact g257 | exact g258 | exact g259 | exact gA | exact gC | rfl) ?_
      refine VW.iconst (pc' := 93) d_Model_groups_92 rfl (by decide) ?_
      refine VW.isub (pc' := 94) d_Model_groups_93 rfl (by omega) ?_
      refine VW.ild (pc' := 95) d_Model_groups_94 rfl (hM.k rfl) (by omega) (by omega) (by first | exact g71 | exact g273 | exact g257 | exact g258 | exact g259 | exact gA | exact gC | rfl) ?_
      refine VW.icmp_ge (tgt := 297) (pc' := 98) d_Model_groups_95 rfl rfl (fun c95 => ?_) (fun c95 => ?_)
      · refine VW.aload_n (pc' := 298) d_Model_groups_297 rfl rfl ?_
        refine VW.iload (pc' := 300) d_Model_groups_298 rfl rfl ?_
        refine VW.iload (pc' := 302) d_Model_groups_300 rfl rfl ?_
        refine VW.iconst (pc' := 303) d_Model_groups_302 rfl (by decide) ?_
        refine VW.iconst (pc' := 304) d_Model_groups_303 rfl (by decide) ?_
        refine VW.cV (ci := 11) (T := T11) (N := 94) (pc' := 307) d_Model_groups_304 rfl mv_Model_takes lk_Model_450 rfl (hM.k rfl) rfl rfl rfl (Nat.le_refl _) (Nat.le_refl _) (sp_Model_takes hM (by omega) (by omega) (by omega) (by omega) (by omega) (by omega)) rfl rfl ?_
        exact VW.vret d_Model_groups_307 rfl (Nat.zero_le _) (Nat.zero_le _) (exU_mk fin)
      · exfalso; omega
    | succ l ih =>
      intro k g T hk hT
      have gl := hT.len
      have fr := hT.2
      have g71 : T 100 71 = r + 1 := (fr 100 71 (by omega)).trans hr
      have g273 : T 273 (r + 1 - 1) = n := by rw [show r + 1 - 1 = r by omega, fr 273 r (by omega)]; exact hn
      have g257 : T 257 x = I 257 x := fr 257 x (by omega)
      have s1 := mulStep (w := (w : Int)) (k := (k : Int)) (n := (n : Int)) (by omega) (by omega)
      have s3 := mulNN (w := (w : Int)) (k := (k : Int)) (by omega) (by omega)
      have ek : ((k + 1 : Nat) : Int) = (k : Int) + 1 := by omega
      have tail : ∀ (key : Int) (U : IT) (j : Nat) (g' : Int), (∀ v, v = (if I 258 x = 0 then 0 else nth (rowAt I 270 (b + (w : Int) * (k : Int)) w) (I 259 x)) → (I 258 x = 0 → inR (U 270 (m + 2 * (j : Int) + 1) + 1)) ∧ (I 258 x = 1 → v ≠ -2147483648 → U 270 (m + 2 * (j : Int) + 1) ≠ -2147483648 → inR (U 270 (m + 2 * (j : Int) + 1) + v))) → (∀ o q, ¬ (o = 270 ∧ m ≤ q) → U o q = I o q) → j ≤ k + 1 → (∀ v, v = (if I 258 x = 0 then 0 else nth (rowAt I 270 (b + (w : Int) * (k : Int)) w) (I 259 x)) → VW m_Model_groups false (rmv 2 43) (exU K P J (.inl none) (fun I' => (I' 273 r = (groupL (I 258 x) (I 257 x) (I 259 x) (seg I 270 b w n)).length ∧ I' 274 r = 2 ∧ seg I' 270 b 2 (groupL (I 258 x) (I 257 x) (I 259 x) (seg I 270 b w n)).length = (groupL (I 258 x) (I 257 x) (I 259 x) (seg I 270 b w n))) ∧ ∀ (o : Nat) (q : Int), ¬ (o = 270 ∧ b ≤ q) → ¬ (o = 273 ∧ q = r) → ¬ (o = 274 ∧ q = r) → I' o q = I o q)) K P J (up2 U 270 (m + 2 * (j : Int) + 1) (gath (I 258 x) (U 270 (m + 2 * (j : Int) + 1)) v)) 0 0 82 [(0, vR (some 100)), (1, vI x), (2, vI (w : Int)), (3, vI b), (4, vI m), (5, vI g'), (6, vI ((k : Int) + 1))] []) → VW m_Model_groups false (rmv 2 43) (exU K P J (.inl none) (fun I' => (I' 273 r = (groupL (I 258 x) (I 257 x) (I 259 x) (seg I 270 b w n)).length ∧ I' 274 r = 2 ∧ seg I' 270 b 2 (groupL (I 258 x) (I 257 x) (I 259 x) (seg I 270 b w n)).length = (groupL (I 258 x) (I 257 x) (I 259 x) (seg I 270 b w n))) ∧ ∀ (o : Nat) (q : Int), ¬ (o = 270 ∧ b ≤ q) → ¬ (o = 273 ∧ q = r) → ¬ (o = 274 ∧ q = r) → I' o q = I o q)) K P J U 0 0 219 [(0, vR (some 100)), (1, vI x), (2, vI (w : Int)), (3, vI b), (4, vI m), (5, vI g'), (6, vI (k : Int)), (7, vI key), (8, vI (j : Int))] [] := by
        intro key U j g' hov fr hj nx
        have g258 : U 258 x = I 258 x := fr 258 x (by omega)
        have g259 : U 259 x = I 259 x := fr 259 x (by omega)
        have t2 : ∀ v, v = (if I 258 x = 0 then 0 else nth (rowAt I 270 (b + (w : Int) * (k : Int)) w) (I 259 x)) → VW m_Model_groups false (rmv 2 43) (exU K P J (.inl none) (fun I' => (I' 273 r = (groupL (I 258 x) (I 257 x) (I 259 x) (seg I 270 b w n)).length ∧ I' 274 r = 2 ∧ seg I' 270 b 2 (groupL (I 258 x) (I 257 x) (I 259 x) (seg I 270 b w n)).length = (groupL (I 258 x) (I 257 x) (I 259 x) (seg I 270 b w n))) ∧ ∀ (o : Nat) (q : Int), ¬ (o = 270 ∧ b ≤ q) → ¬ (o = 273 ∧ q = r) → ¬ (o = 274 ∧ q = r) → I' o q = I o q)) K P J U 0 0 250 [(0, vR (some 100)), (1, vI x), (2, vI (w : Int)), (3, vI b), (4, vI m), (5, vI g'), (6, vI (k : Int)), (7, vI key), (8, vI (j : Int))] [vI v] := by
          intro v hv
          have n1 := nx v hv
          have o1 := hov v hv
          clear nx hov fr ih hG
          refine VW.istore (pc' := 252) d_Model_groups_250 rfl rfl ?_
          refine VW.aload_n (pc' := 253) d_Model_groups_252 rfl rfl ?_
          refine VW.gP (ci := 11) (T := T11) (N := 94) (k := 70) (k' := 70) (pc' := 256) d_Model_groups_253 rfl lk_Model_178 in11 rfl rfl rfl rfl (hM.k rfl) (hM.p (r := some 270) 70 rfl rfl) ?_
          refine VW.iload (pc' := 258) d_Model_groups_256 rfl rfl ?_
          refine VW.iconst (pc' := 259) d_Model_groups_258 rfl (by decide) ?_
          refine VW.iload (pc' := 261) d_Model_groups_259 rfl rfl ?_
          refine VW.imul (pc' := 262) d_Model_groups_261 rfl (by omega) ?_
          refine VW.iadd (pc' := 263) d_Model_groups_262 rfl (by omega) ?_
          refine VW.iconst (pc' := 264) d_Model_groups_263 rfl (by decide) ?_
          refine VW.iadd (pc' := 265) d_Model_groups_264 rfl (by omega) ?_
          refine VW.aload_n (pc' := 266) d_Model_groups_265 rfl rfl ?_
          refine VW.gP (ci := 11) (T := T11) (N := 94) (k := 58) (k' := 58) (pc' := 269) d_Model_groups_266 rfl lk_Model_150 in11 rfl rfl rfl rfl (hM.k rfl) (hM.p (r := some 258) 58 rfl rfl) ?_
          refine VW.iload_n (pc' := 270) d_Model_groups_269 rfl rfl ?_
          refine VW.ild (pc' := 271) d_Model_groups_270 rfl (hM.k rfl) (by omega) (by omega) (by first | exact g71 | exact g273 | exact g257 | exact g258 | exact g259 | exact gA | exact gC | rfl) ?_
          refine VW.aload_n (pc' := 272) d_Model_groups_271 rfl rfl ?_
          refine VW.gP (ci := 11) (T := T11) (N := 94) (k := 70) (k' := 70) (pc' := 275) d_Model_groups_272 rfl lk_Model_178 in11 rfl rfl rfl rfl (hM.k rfl) (hM.p (r := some 270) 70 rfl rfl) ?_
          refine VW.iload (pc' := 277) d_Model_groups_275 rfl rfl ?_
          refine VW.iconst (pc' := 278) d_Model_groups_277 rfl (by decide) ?_
          refine VW.iload (pc' := 280) d_Model_groups_278 rfl rfl ?_
          refine VW.imul (pc' := 281) d_Model_groups_280 rfl (by omega) ?_
          refine VW.iadd (pc' := 282) d_Model_groups_281 rfl (by omega) ?_
          refine VW.iconst (pc' := 283) d_Model_groups_282 rfl (by decide) ?_
          refine VW.iadd (pc' := 284) d_Model_groups_283 rfl (by omega) ?_
          refine VW.ild (pc' := 285) d_Model_groups_284 rfl (hM.k rfl) (by omega) (by omega) (by first | exact g71 | exact g273 | exact g257 | exact g258 | exact g259 | exact gA | exact gC | rfl) ?_
          refine VW.iload (pc' := 287) d_Model_groups_285 rfl rfl ?_
          refine VW.cS (pc' := 290) d_Model_groups_287 rfl ms_Model_gathered lk_Model_447 rfl rfl rfl (Nat.le_refl _) (Nat.le_refl _) (sp_Model_gathered o1.1 o1.2) rfl rfl ?_
          refine VW.iast (pc' := 291) d_Model_groups_290 rfl (hM.k rfl) (by omega) (by omega) ?_
          refine VW.iinc (pc' := 294) d_Model_groups_291 rfl rfl rfl (by omega) ?_
          refine VW.goto (pc' := 82) d_Model_groups_294 rfl ?_
          refine VW.pick [0, 1, 2, 3, 4, 5, 6] ?_
          exact n1
        have t0 := fun z => t2 0 (if_pos z).symm
        have t1 := fun (z : I 258 x ≠ 0) => t2 (I 270 (b + (w : Int) * (k : Int) + I 259 x)) (by
          rw [if_neg z]
          exact (nth_rowAt (by omega) (by omega)).symm)
        have gC : I 258 x ≠ 0 → U 270 (b + (w : Int) * (k : Int) + I 259 x) = I 270 (b + (w : Int) * (k : Int) + I 259 x) := fun z => fr 270 _ (by omega)
        clear t2 nx hov fr ih hG
        refine VW.aload_n (pc' := 220) d_Model_groups_219 rfl rfl ?_
        refine VW.gP (ci := 11) (T := T11) (N := 94) (k := 58) (k' := 58) (pc' := 223) d_Model_groups_220 rfl lk_Model_150 in11 rfl rfl rfl rfl (hM.k rfl) (hM.p (r := some 258) 58 rfl rfl) ?_
        refine VW.iload_n (pc' := 224) d_Model_groups_223 rfl rfl ?_
        refine VW.ild (pc' := 225) d_Model_groups_224 rfl (hM.k rfl) (by omega) (by omega) (by first | exact g258 | exact g259 | exact gC c225 | rfl) ?_
        refine VW.if_ne (tgt := 232) (pc' := 228) d_Model_groups_225 rfl rfl (fun c225 => ?_) (fun c225 => ?_)
        · try have e225 := bIn c225
          have hC1 := hC
          refine VW.aload_n (pc' := 233) d_Model_groups_232 rfl rfl ?_
          refine VW.gP (ci := 11) (T := T11) (N := 94) (k := 70) (k' := 70) (pc' := 236) d_Model_groups_233 rfl lk_Model_178 in11 rfl rfl rfl rfl (hM.k rfl) (hM.p (r := some 270) 70 rfl rfl) ?_
          refine VW.iload_n (pc' := 237) d_Model_groups_236 rfl rfl ?_
          refine VW.iload_n (pc' := 238) d_Model_groups_237 rfl rfl ?_
          refine VW.iload (pc' := 240) d_Model_groups_238 rfl rfl ?_
          refine VW.imul (pc' := 241) d_Model_groups_240 rfl (by omega) ?_
          refine VW.iadd (pc' := 242) d_Model_groups_241 rfl (by omega) ?_
          refine VW.aload_n (pc' := 243) d_Model_groups_242 rfl rfl ?_
          refine VW.gP (ci := 11) (T := T11) (N := 94) (k := 59) (k' := 59) (pc' := 246) d_Model_groups_243 rfl lk_Model_153 in11 rfl rfl rfl rfl (hM.k rfl) (hM.p (r := some 259) 59 rfl rfl) ?_
          refine VW.iload_n (pc' := 247) d_Model_groups_246 rfl rfl ?_
          refine VW.ild (pc' := 248) d_Model_groups_247 rfl (hM.k rfl) (by omega) (by omega) (by first | exact g258 | exact g259 | exact gC c225 | rfl) ?_
          refine VW.iadd (pc' := 249) d_Model_groups_248 rfl (by omega) ?_
          refine VW.ild (pc' := 250) d_Model_groups_249 rfl (hM.k rfl) (by omega) (by omega) (by first | exact g258 | exact g259 | exact gC c225 | rfl) ?_
          refine VW.nrm ?_
          first | exact t0 c225 | exact t1 c225
        · try have e225 := bIe c225
          refine VW.iconst (pc' := 229) d_Model_groups_228 rfl (by decide) ?_
          refine VW.goto (pc' := 250) d_Model_groups_229 rfl ?_
          refine VW.nrm ?_
          first | exact t0 c225 | exact t1 c225
      have srch : ∀ (key : Int), key = (if I 257 x = -1 then -2147483648 else nth (rowAt I 270 (b + (w : Int) * (k : Int)) w) (I 257 x)) → ∀ (l2 j : Nat), j + l2 = g → (∀ i : Nat, i < j → T 270 (m + 2 * (i : Int)) ≠ key) → VW m_Model_groups false (rmv 2 43) (exU K P J (.inl none) (fun I' => (I' 273 r = (groupL (I 258 x) (I 257 x) (I 259 x) (seg I 270 b w n)).length ∧ I' 274 r = 2 ∧ seg I' 270 b 2 (groupL (I 258 x) (I 257 x) (I 259 x) (seg I 270 b w n)).length = (groupL (I 258 x) (I 257 x) (I 259 x) (seg I 270 b w n))) ∧ ∀ (o : Nat) (q : Int), ¬ (o = 270 ∧ b ≤ q) → ¬ (o = 273 ∧ q = r) → ¬ (o = 274 ∧ q = r) → I' o q = I o q)) K P J T 0 0 136 [(0, vR (some 100)), (1, vI x), (2, vI (w : Int)), (3, vI b), (4, vI m), (5, vI (g : Int)), (6, vI (k : Int)), (7, vI key), (8, vI (j : Int))] [] := by
        intro key hkey l2
        have inAll : ∀ k' : Nat, k' < n → ∀ z ∈ groupL (I 258 x) (I 257 x) (I 259 x) (seg I 270 b w (k' + 1)), inR (nth z 1) := hG
        have hfound : ∀ j : Nat, j < g → (∀ i : Nat, i < j → T 270 (m + 2 * (i : Int)) ≠ key) → T 270 (m + 2 * (j : Int)) = key → VW m_Model_groups false (rmv 2 43) (exU K P J (.inl none) (fun I' => (I' 273 r = (groupL (I 258 x) (I 257 x) (I 259 x) (seg I 270 b w n)).length ∧ I' 274 r = 2 ∧ seg I' 270 b 2 (groupL (I 258 x) (I 257 x) (I 259 x) (seg I 270 b w n)).length = (groupL (I 258 x) (I 257 x) (I 259 x) (seg I 270 b w n))) ∧ ∀ (o : Nat) (q : Int), ¬ (o = 270 ∧ b ≤ q) → ¬ (o = 273 ∧ q = r) → ¬ (o = 274 ∧ q = r) → I' o q = I o q)) K P J T 0 0 219 [(0, vR (some 100)), (1, vI x), (2, vI (w : Int)), (3, vI b), (4, vI m), (5, vI (g : Int)), (6, vI (k : Int)), (7, vI key), (8, vI (j : Int))] [] := by
          intro j hj hlt hk1
          refine tail key T j (g : Int) (fun v hv => ?_) fr (by omega) (fun v hv => ?_)
          · have q := hT.found hj hlt hk1 hkey hv
            have z := inAll k (by omega) (rowAt (up2 T 270 (m + 2 * (j : Int) + 1) (gath (I 258 x) (T 270 (m + 2 * (j : Int) + 1)) v)) 270 (m + ((2 : Nat) : Int) * (j : Int)) 2) (by rw [← q.1]; exact seg_mem.2 ⟨j, hj, rfl⟩)
            rw [nth_rowAt (by decide) (by decide), show m + ((2 : Nat) : Int) * (j : Int) + 1 = m + 2 * (j : Int) + 1 from rfl, up2_eq] at z
            unfold gath at z
            refine ⟨fun y => by rw [if_pos y] at z; exact z, fun y y1 y2 => ?_⟩
            rw [if_neg (by omega), if_neg y1, if_neg y2, if_pos y] at z
            exact z
          · have := ih (k + 1) g _ (by omega) (hT.found hj hlt hk1 hkey hv)
            rw [ek] at this
            exact this
        have hnew : (∀ i : Nat, i < g → T 270 (m + 2 * (i : Int)) ≠ key) → VW m_Model_groups false (rmv 2 43) (exU K P J (.inl none) (fun I' => (I' 273 r = (groupL (I 258 x) (I 257 x) (I 259 x) (seg I 270 b w n)).length ∧ I' 274 r = 2 ∧ seg I' 270 b 2 (groupL (I 258 x) (I 257 x) (I 259 x) (seg I 270 b w n)).length = (groupL (I 258 x) (I 257 x) (I 259 x) (seg I 270 b w n))) ∧ ∀ (o : Nat) (q : Int), ¬ (o = 270 ∧ b ≤ q) → ¬ (o = 273 ∧ q = r) → ¬ (o = 274 ∧ q = r) → I' o q = I o q)) K P J (up2 (up2 T 270 (m + 2 * (g : Int)) key) 270 (m + 2 * (g : Int) + 1) (gInit (I 258 x))) 0 0 219 [(0, vR (some 100)), (1, vI x), (2, vI (w : Int)), (3, vI b), (4, vI m), (5, vI ((g : Int) + 1)), (6, vI (k : Int)), (7, vI key), (8, vI (g : Int))] [] := by
          intro hlt
          have eU : (up2 (up2 T 270 (m + 2 * (g : Int)) key) 270 (m + 2 * (g : Int) + 1) (gInit (I 258 x))) 270 (m + 2 * (g : Int) + 1) = gInit (I 258 x) := up2_eq _ _ _ _
          refine tail key _ g ((g : Int) + 1) (fun v hv => ?_) (fun o q hq => (if_neg (by omega)).trans ((if_neg (by omega)).trans (fr o q hq))) (by omega) (fun v hv => ?_)
          · have q := hT.new hlt hkey hv
            have z := inAll k (by omega) (rowAt (up2 (up2 (up2 T 270 (m + 2 * (g : Int)) key) 270 (m + 2 * (g : Int) + 1) (gInit (I 258 x))) 270 (m + 2 * (g : Int) + 1) (gath (I 258 x) (gInit (I 258 x)) v)) 270 (m + ((2 : Nat) : Int) * (g : Int)) 2) (by rw [← q.1]; exact seg_mem.2 ⟨g, by omega, rfl⟩)
            rw [nth_rowAt (by decide) (by decide), show m + ((2 : Nat) : Int) * (g : Int) + 1 = m + 2 * (g : Int) + 1 from rfl, up2_eq] at z
            rw [eU]
            unfold gath at z
            refine ⟨fun y => by rw [if_pos y] at z; exact z, fun y y1 y2 => ?_⟩
            rw [if_neg (by omega), if_neg y1, if_neg y2, if_pos y] at z
            exact z
          · have := ih (k + 1) (g + 1) _ (by omega) (hT.new hlt hkey hv)
            rw [ek, show ((g + 1 : Nat) : Int) = (g : Int) + 1 by omega] at this
            rw [eU]
            exact this
        clear tail ih inAll hT
        have atEnd : ∀ j : Nat, (∀ i : Nat, i < j → T 270 (m + 2 * (i : Int)) ≠ key) → (j = g ∨ (j < g ∧ T 270 (m + 2 * (j : Int)) = key)) → VW m_Model_groups false (rmv 2 43) (exU K P J (.inl none) (fun I' => (I' 273 r = (groupL (I 258 x) (I 257 x) (I 259 x) (seg I 270 b w n)).length ∧ I' 274 r = 2 ∧ seg I' 270 b 2 (groupL (I 258 x) (I 257 x) (I 259 x) (seg I 270 b w n)).length = (groupL (I 258 x) (I 257 x) (I 259 x) (seg I 270 b w n))) ∧ ∀ (o : Nat) (q : Int), ¬ (o = 270 ∧ b ≤ q) → ¬ (o = 273 ∧ q = r) → ¬ (o = 274 ∧ q = r) → I' o q = I o q)) K P J T 0 0 166 [(0, vR (some 100)), (1, vI x), (2, vI (w : Int)), (3, vI b), (4, vI m), (5, vI (g : Int)), (6, vI (k : Int)), (7, vI key), (8, vI (j : Int))] [] := by
          intro j hlt hj
          have g258 : ∀ v, up2 T 270 (m + 2 * (j : Int)) v 258 x = I 258 x := fun v => (up2_o _ _ _ _ (by decide)).trans (fr 258 x (by omega))
          have nx : (j : Int) = g → ∀ v, v = gInit (I 258 x) → VW m_Model_groups false (rmv 2 43) (exU K P J (.inl none) (fun I' => (I' 273 r = (groupL (I 258 x) (I 257 x) (I 259 x) (seg I 270 b w n)).length ∧ I' 274 r = 2 ∧ seg I' 270 b 2 (groupL (I 258 x) (I 257 x) (I 259 x) (seg I 270 b w n)).length = (groupL (I 258 x) (I 257 x) (I 259 x) (seg I 270 b w n))) ∧ ∀ (o : Nat) (q : Int), ¬ (o = 270 ∧ b ≤ q) → ¬ (o = 273 ∧ q = r) → ¬ (o = 274 ∧ q = r) → I' o q = I o q)) K P J (up2 (up2 T 270 (m + 2 * (j : Int)) key) 270 (m + 2 * (j : Int) + 1) v) 0 0 219 [(0, vR (some 100)), (1, vI x), (2, vI (w : Int)), (3, vI b), (4, vI m), (5, vI ((g : Int) + 1)), (6, vI (k : Int)), (7, vI key), (8, vI (j : Int))] [] := fun z v hv => by
            have e : j = g := by omega
            subst e; rw [hv]; exact hnew hlt
          have fd : (j : Int) ≠ g → VW m_Model_groups false (rmv 2 43) (exU K P J (.inl none) (fun I' => (I' 273 r = (groupL (I 258 x) (I 257 x) (I 259 x) (seg I 270 b w n)).length ∧ I' 274 r = 2 ∧ seg I' 270 b 2 (groupL (I 258 x) (I 257 x) (I 259 x) (seg I 270 b w n)).length = (groupL (I 258 x) (I 257 x) (I 259 x) (seg I 270 b w n))) ∧ ∀ (o : Nat) (q : Int), ¬ (o = 270 ∧ b ≤ q) → ¬ (o = 273 ∧ q = r) → ¬ (o = 274 ∧ q = r) → I' o q = I o q)) K P J T 0 0 219 [(0, vR (some 100)), (1, vI x), (2, vI (w : Int)), (3, vI b), (4, vI m), (5, vI (g : Int)), (6, vI (k : Int)), (7, vI key), (8, vI (j : Int))] [] := fun z => hfound j (by omega) hlt (hj.elim (fun y => absurd y (by omega)) (fun y => y.2))
          have i0 := fun (z : I 258 x = 0) => (show (0 : Int) = gInit (I 258 x) from (if_pos z).symm)
          have i1 := fun (z : I 258 x ≠ 0) => (show (-2147483648 : Int) = gInit (I 258 x) from (if_neg z).symm)
          clear hnew hfound fr hG
          refine VW.iload (pc' := 168) d_Model_groups_166 rfl rfl ?_
          refine VW.iload (pc' := 170) d_Model_groups_168 rfl rfl ?_
          refine VW.icmp_ne (tgt := 219) (pc' := 173) d_Model_groups_170 rfl rfl (fun c170 => ?_) (fun c170 => ?_)
          · refine VW.nrm ?_
            first | exact fd c170 | exact nx c170 _ (i0 c206) | exact nx c170 _ (i1 c206)
          · refine VW.aload_n (pc' := 174) d_Model_groups_173 rfl rfl ?_
            refine VW.gP (ci := 11) (T := T11) (N := 94) (k := 70) (k' := 70) (pc' := 177) d_Model_groups_174 rfl lk_Model_178 in11 rfl rfl rfl rfl (hM.k rfl) (hM.p (r := some 270) 70 rfl rfl) ?_
            refine VW.iload (pc' := 179) d_Model_groups_177 rfl rfl ?_
            refine VW.iconst (pc' := 180) d_Model_groups_179 rfl (by decide) ?_
            refine VW.iload (pc' := 182) d_Model_groups_180 rfl rfl ?_
            refine VW.imul (pc' := 183) d_Model_groups_182 rfl (by omega) ?_
            refine VW.iadd (pc' := 184) d_Model_groups_183 rfl (by omega) ?_
            refine VW.iload (pc' := 186) d_Model_groups_184 rfl rfl ?_
            refine VW.iast (pc' := 187) d_Model_groups_186 rfl (hM.k rfl) (by omega) (by omega) ?_
            refine VW.aload_n (pc' := 188) d_Model_groups_187 rfl rfl ?_
            refine VW.gP (ci := 11) (T := T11) (N := 94) (k := 70) (k' := 70) (pc' := 191) d_Model_groups_188 rfl lk_Model_178 in11 rfl rfl rfl rfl (hM.k rfl) (hM.p (r := some 270) 70 rfl rfl) ?_
            refine VW.iload (pc' := 193) d_Model_groups_191 rfl rfl ?_
            refine VW.iconst (pc' := 194) d_Model_groups_193 rfl (by decide) ?_
            refine VW.iload (pc' := 196) d_Model_groups_194 rfl rfl ?_
            refine VW.imul (pc' := 197) d_Model_groups_196 rfl (by omega) ?_
            refine VW.iadd (pc' := 198) d_Model_groups_197 rfl (by omega) ?_
            refine VW.iconst (pc' := 199) d_Model_groups_198 rfl (by decide) ?_
            refine VW.iadd (pc' := 200) d_Model_groups_199 rfl (by omega) ?_
            refine VW.aload_n (pc' := 201) d_Model_groups_200 rfl rfl ?_
            refine VW.gP (ci := 11) (T := T11) (N := 94) (k := 58) (k' := 58) (pc' := 204) d_Model_groups_201 rfl lk_Model_150 in11 rfl rfl rfl rfl (hM.k rfl) (hM.p (r := some 258) 58 rfl rfl) ?_
            refine VW.iload_n (pc' := 205) d_Model_groups_204 rfl rfl ?_
            refine VW.ild (pc' := 206) d_Model_groups_205 rfl (hM.k rfl) (by omega) (by omega) (by first | exact g258 _ | rfl) ?_
            refine VW.if_ne (tgt := 213) (pc' := 209) d_Model_groups_206 rfl rfl (fun c206 => ?_) (fun c206 => ?_)
            · try have e206 := bIn c206
              refine VW.ldc (pc' := 215) (z := -2147483648) d_Model_groups_213 rfl lk_Model_246 (by decide) (by decide) ?_
              refine VW.iast (pc' := 216) d_Model_groups_215 rfl (hM.k rfl) (by omega) (by omega) ?_
              refine VW.iinc (pc' := 219) d_Model_groups_216 rfl rfl rfl (by omega) ?_
              refine VW.nrm ?_
              first | exact fd c170 | exact nx c170 _ (i0 c206) | exact nx c170 _ (i1 c206)
            · try have e206 := bIe c206
              refine VW.iconst (pc' := 210) d_Model_groups_209 rfl (by decide) ?_
              refine VW.goto (pc' := 215) d_Model_groups_210 rfl ?_
              refine VW.iast (pc' := 216) d_Model_groups_215 rfl (hM.k rfl) (by omega) (by omega) ?_
              refine VW.iinc (pc' := 219) d_Model_groups_216 rfl rfl rfl (by omega) ?_
              refine VW.nrm ?_
              first | exact fd c170 | exact nx c170 _ (i0 c206) | exact nx c170 _ (i1 c206)
        clear hnew hfound
        induction l2 with
        | zero =>
          intro j hj hlt
          have ae := atEnd j hlt (Or.inl (by omega))
          clear atEnd hlt
          refine VW.iload (pc' := 138) d_Model_groups_136 rfl rfl ?_
          refine VW.iload (pc' := 140) d_Model_groups_138 rfl rfl ?_
          refine VW.icmp_ge (tgt := 166) (pc' := 143) d_Model_groups_140 rfl rfl (fun c140 => ?_) (fun c140 => ?_)
          · refine VW.nrm ?_
            exact ae
          · exfalso; omega
        | succ l2 ihs =>
          intro j hj hlt
          have ae := fun y => atEnd j hlt (Or.inr ⟨by omega, y⟩)
          have nx := fun (y : T 270 (m + 2 * (j : Int)) ≠ key) => ihs (j + 1) (by omega) (fun i hi => by
            by_cases e : i = j
            · subst e; exact y
            · exact hlt i (by omega))
          rw [show ((j + 1 : Nat) : Int) = (j : Int) + 1 by omega] at nx
          clear atEnd hlt ihs
          refine VW.iload (pc' := 138) d_Model_groups_136 rfl rfl ?_
          refine VW.iload (pc' := 140) d_Model_groups_138 rfl rfl ?_
          refine VW.icmp_ge (tgt := 166) (pc' := 143) d_Model_groups_140 rfl rfl (fun c140 => ?_) (fun c140 => ?_)
          · refine VW.nrm ?_
            first | exact ae c157 | (exfalso; omega)
          · refine VW.aload_n (pc' := 144) d_Model_groups_143 rfl rfl ?_
            refine VW.gP (ci := 11) (T := T11) (N := 94) (k := 70) (k' := 70) (pc' := 147) d_Model_groups_144 rfl lk_Model_178 in11 rfl rfl rfl rfl (hM.k rfl) (hM.p (r := some 270) 70 rfl rfl) ?_
            refine VW.iload (pc' := 149) d_Model_groups_147 rfl rfl ?_
            refine VW.iconst (pc' := 150) d_Model_groups_149 rfl (by decide) ?_
            refine VW.iload (pc' := 152) d_Model_groups_150 rfl rfl ?_
            refine VW.imul (pc' := 153) d_Model_groups_152 rfl (by omega) ?_
            refine VW.iadd (pc' := 154) d_Model_groups_153 rfl (by omega) ?_
            refine VW.ild (pc' := 155) d_Model_groups_154 rfl (hM.k rfl) (by omega) (by omega) (rfl) ?_
            refine VW.iload (pc' := 157) d_Model_groups_155 rfl rfl ?_
            refine VW.icmp_eq (tgt := 166) (pc' := 160) d_Model_groups_157 rfl rfl (fun c157 => ?_) (fun c157 => ?_)
            · refine VW.nrm ?_
              first | exact ae c157 | (exfalso; omega)
            · refine VW.iinc (pc' := 163) d_Model_groups_160 rfl rfl rfl (by omega) ?_
              refine VW.goto (pc' := 136) d_Model_groups_163 rfl ?_
              refine VW.nrm ?_
              exact nx c157
      clear tail ih hT
      have s0 := fun (z : I 257 x = -1) => srch (-2147483648) (if_pos z).symm g 0 (by omega) (fun i h => by omega)
      have s2 := fun (z : I 257 x ≠ -1) => srch (I 270 (b + (w : Int) * (k : Int) + I 257 x)) (by
        rw [if_neg z]
        exact (nth_rowAt (by omega) (by omega)).symm) g 0 (by omega) (fun i h => by omega)
      have gA : I 257 x ≠ -1 → T 270 (b + (w : Int) * (k : Int) + I 257 x) = I 270 (b + (w : Int) * (k : Int) + I 257 x) := fun z => fr 270 _ (by omega)
      clear srch fr hG
      refine VW.iload (pc' := 84) d_Model_groups_82 rfl rfl ?_
      refine VW.aload_n (pc' := 85) d_Model_groups_84 rfl rfl ?_
      refine VW.gP (ci := 11) (T := T11) (N := 94) (k := 73) (k' := 73) (pc' := 88) d_Model_groups_85 rfl lk_Model_184 in11 rfl rfl rfl rfl (hM.k rfl) (hM.p (r := some 273) 73 rfl rfl) ?_
      refine VW.aload_n (pc' := 89) d_Model_groups_88 rfl rfl ?_
      refine VW.gI (ci := 11) (T := T11) (N := 94) (k := 71) (k' := 71) (pc' := 92) d_Model_groups_89 rfl lk_Model_434 in11 rfl rfl rfl rfl (hM.k rfl) (by first | exact g71 | exact g273 | exact g257 | exact gA c105 | rfl) ?_
      refine VW.iconst (pc' := 93) d_Model_groups_92 rfl (by decide) ?_
      refine VW.isub (pc' := 94) d_Model_groups_93 rfl (by omega) ?_
      refine VW.ild (pc' := 95) d_Model_groups_94 rfl (hM.k rfl) (by omega) (by omega) (by first | exact g71 | exact g273 | exact g257 | exact gA c105 | rfl) ?_
      refine VW.icmp_ge (tgt := 297) (pc' := 98) d_Model_groups_95 rfl rfl (fun c95 => ?_) (fun c95 => ?_)
      · exfalso; omega
      · refine VW.aload_n (pc' := 99) d_Model_groups_98 rfl rfl ?_
        refine VW.gP (ci := 11) (T := T11) (N := 94) (k := 57) (k' := 57) (pc' := 102) d_Model_groups_99 rfl lk_Model_147 in11 rfl rfl rfl rfl (hM.k rfl) (hM.p (r := some 257) 57 rfl rfl) ?_
        refine VW.iload_n (pc' := 103) d_Model_groups_102 rfl rfl ?_
        refine VW.ild (pc' := 104) d_Model_groups_103 rfl (hM.k rfl) (by omega) (by omega) (by first | exact g71 | exact g273 | exact g257 | exact gA c105 | rfl) ?_
        refine VW.iconst (pc' := 105) d_Model_groups_104 rfl (by decide) ?_
        refine VW.icmp_ne (tgt := 113) (pc' := 108) d_Model_groups_105 rfl rfl (fun c105 => ?_) (fun c105 => ?_)
        · have hA1 := hA
          refine VW.aload_n (pc' := 114) d_Model_groups_113 rfl rfl ?_
          refine VW.gP (ci := 11) (T := T11) (N := 94) (k := 70) (k' := 70) (pc' := 117) d_Model_groups_114 rfl lk_Model_178 in11 rfl rfl rfl rfl (hM.k rfl) (hM.p (r := some 270) 70 rfl rfl) ?_
          refine VW.iload_n (pc' := 118) d_Model_groups_117 rfl rfl ?_
          refine VW.iload_n (pc' := 119) d_Model_groups_118 rfl rfl ?_
          refine VW.iload (pc' := 121) d_Model_groups_119 rfl rfl ?_
          refine VW.imul (pc' := 122) d_Model_groups_121 rfl (by omega) ?_
          refine VW.iadd (pc' := 123) d_Model_groups_122 rfl (by omega) ?_
          refine VW.aload_n (pc' := 124) d_Model_groups_123 rfl rfl ?_
          refine VW.gP (ci := 11) (T := T11) (N := 94) (k := 57) (k' := 57) (pc' := 127) d_Model_groups_124 rfl lk_Model_147 in11 rfl rfl rfl rfl (hM.k rfl) (hM.p (r := some 257) 57 rfl rfl) ?_
          refine VW.iload_n (pc' := 128) d_Model_groups_127 rfl rfl ?_
          refine VW.ild (pc' := 129) d_Model_groups_128 rfl (hM.k rfl) (by omega) (by omega) (by first | exact g71 | exact g273 | exact g257 | exact gA c105 | rfl) ?_
          refine VW.iadd (pc' := 130) d_Model_groups_129 rfl (by omega) ?_
          refine VW.ild (pc' := 131) d_Model_groups_130 rfl (hM.k rfl) (by omega) (by omega) (by first | exact g71 | exact g273 | exact g257 | exact gA c105 | rfl) ?_
          refine VW.istore (pc' := 133) d_Model_groups_131 rfl rfl ?_
          refine VW.iconst (pc' := 134) d_Model_groups_133 rfl (by decide) ?_
          refine VW.istore (pc' := 136) d_Model_groups_134 rfl rfl ?_
          refine VW.nrm ?_
          first | exact s0 c105 | exact s2 c105
        · refine VW.ldc (pc' := 110) (z := -2147483648) d_Model_groups_108 rfl lk_Model_246 (by decide) (by decide) ?_
          refine VW.goto (pc' := 131) d_Model_groups_110 rfl ?_
          refine VW.istore (pc' := 133) d_Model_groups_131 rfl rfl ?_
          refine VW.iconst (pc' := 134) d_Model_groups_133 rfl (by decide) ?_
          refine VW.istore (pc' := 136) d_Model_groups_134 rfl rfl ?_
          refine VW.nrm ?_
          first | exact s0 c105 | exact s2 c105
  have tp : mTop I = m := by
    unfold mTop
    rw [if_neg (by omega), hr, show r + 1 - 1 = r by omega, hb, hn, hw, hm, Int.mul_comm]
  have tp1 := sp_Model_top (K := K) (P := P) (J := J) (I := I) hM (by omega) (fun _ => by rw [hr, show r + 1 - 1 = r by omega, hb, hn, hw, Int.mul_comm]; omega)
  rw [tp] at tp1
  have hw2 : I 274 (r + 1 - 1) = w := by rw [show r + 1 - 1 = r by omega]; exact hw
  have hb2 : I 272 (r + 1 - 1) = b := by rw [show r + 1 - 1 = r by omega]; exact hb
  have go0 : I 257 x ≠ -1 → VW m_Model_groups false (rmv 2 43) (exU K P J (.inl none) (fun I' => (I' 273 r = (groupL (I 258 x) (I 257 x) (I 259 x) (seg I 270 b w n)).length ∧ I' 274 r = 2 ∧ seg I' 270 b 2 (groupL (I 258 x) (I 257 x) (I 259 x) (seg I 270 b w n)).length = (groupL (I 258 x) (I 257 x) (I 259 x) (seg I 270 b w n))) ∧ ∀ (o : Nat) (q : Int), ¬ (o = 270 ∧ b ≤ q) → ¬ (o = 273 ∧ q = r) → ¬ (o = 274 ∧ q = r) → I' o q = I o q)) K P J I 0 0 82 [(0, vR (some 100)), (1, vI x), (2, vI (w : Int)), (3, vI b), (4, vI m), (5, vI 0), (6, vI 0)] [] := fun z => by
    have l := loop n 0 0 I (by omega) ⟨by rw [seg_0]; show _ = g0 _ _; unfold g0; rw [if_neg z], fun o q _ => rfl⟩
    exact l
  have go1 : I 257 x = -1 → ∀ v, v = gInit (I 258 x) → VW m_Model_groups false (rmv 2 43) (exU K P J (.inl none) (fun I' => (I' 273 r = (groupL (I 258 x) (I 257 x) (I 259 x) (seg I 270 b w n)).length ∧ I' 274 r = 2 ∧ seg I' 270 b 2 (groupL (I 258 x) (I 257 x) (I 259 x) (seg I 270 b w n)).length = (groupL (I 258 x) (I 257 x) (I 259 x) (seg I 270 b w n))) ∧ ∀ (o : Nat) (q : Int), ¬ (o = 270 ∧ b ≤ q) → ¬ (o = 273 ∧ q = r) → ¬ (o = 274 ∧ q = r) → I' o q = I o q)) K P J (up2 (up2 I 270 m (-2147483648)) 270 (m + 1) v) 0 0 82 [(0, vR (some 100)), (1, vI x), (2, vI (w : Int)), (3, vI b), (4, vI m), (5, vI 1), (6, vI 0)] [] := fun z v hv => by
    have l := loop n 0 1 (up2 (up2 I 270 m (-2147483648)) 270 (m + 1) v) (by omega) ⟨by
      show seg _ 270 m 2 (0 + 1) = g0 _ _
      unfold g0
      rw [if_pos z, seg_succ, seg_0, rowAt_2, hv]
      show [[_, _]] = _
      rw [show m + ((2 : Nat) : Int) * ((0 : Nat) : Int) = m by omega, up2_eq, up2_k _ _ _ _ (by omega), up2_eq], fun o q h => (if_neg (by omega)).trans (if_neg (by omega))⟩
    exact l
  have h258 : ∀ v, up2 I 270 m v 258 x = I 258 x := fun v => up2_o _ _ _ _ (by decide)
  have i0 := fun (z : I 258 x = 0) => (show (0 : Int) = gInit (I 258 x) from (if_pos z).symm)
  have i1 := fun (z : I 258 x ≠ 0) => (show (-2147483648 : Int) = gInit (I 258 x) from (if_neg z).symm)
  clear loop hG
  refine VW.aload_n (pc' := 1) d_Model_groups_0 rfl rfl ?_
  refine VW.gP (ci := 11) (T := T11) (N := 94) (k := 74) (k' := 74) (pc' := 4) d_Model_groups_1 rfl lk_Model_187 in11 rfl rfl rfl rfl (hM.k rfl) (hM.p (r := some 274) 74 rfl rfl) ?_
  refine VW.aload_n (pc' := 5) d_Model_groups_4 rfl rfl ?_
  refine VW.gI (ci := 11) (T := T11) (N := 94) (k := 71) (k' := 71) (pc' := 8) d_Model_groups_5 rfl lk_Model_434 in11 rfl rfl rfl rfl (hM.k rfl) (by first | exact hr | exact hw2 | exact hb2 | exact h258 _ | rfl) ?_
  refine VW.iconst (pc' := 9) d_Model_groups_8 rfl (by decide) ?_
  refine VW.isub (pc' := 10) d_Model_groups_9 rfl (by omega) ?_
  refine VW.ild (pc' := 11) d_Model_groups_10 rfl (hM.k rfl) (by omega) (by omega) (by first | exact hr | exact hw2 | exact hb2 | exact h258 _ | rfl) ?_
  refine VW.istore_n (pc' := 12) d_Model_groups_11 rfl rfl ?_
  refine VW.aload_n (pc' := 13) d_Model_groups_12 rfl rfl ?_
  refine VW.gP (ci := 11) (T := T11) (N := 94) (k := 72) (k' := 72) (pc' := 16) d_Model_groups_13 rfl lk_Model_181 in11 rfl rfl rfl rfl (hM.k rfl) (hM.p (r := some 272) 72 rfl rfl) ?_
  refine VW.aload_n (pc' := 17) d_Model_groups_16 rfl rfl ?_
  refine VW.gI (ci := 11) (T := T11) (N := 94) (k := 71) (k' := 71) (pc' := 20) d_Model_groups_17 rfl lk_Model_434 in11 rfl rfl rfl rfl (hM.k rfl) (by first | exact hr | exact hw2 | exact hb2 | exact h258 _ | rfl) ?_
  refine VW.iconst (pc' := 21) d_Model_groups_20 rfl (by decide) ?_
  refine VW.isub (pc' := 22) d_Model_groups_21 rfl (by omega) ?_
  refine VW.ild (pc' := 23) d_Model_groups_22 rfl (hM.k rfl) (by omega) (by omega) (by first | exact hr | exact hw2 | exact hb2 | exact h258 _ | rfl) ?_
  refine VW.istore_n (pc' := 24) d_Model_groups_23 rfl rfl ?_
  refine VW.aload_n (pc' := 25) d_Model_groups_24 rfl rfl ?_
  refine VW.cV (ci := 11) (T := T11) (N := 94) (pc' := 28) d_Model_groups_25 rfl mv_Model_top lk_Model_437 rfl (hM.k rfl) rfl rfl rfl (Nat.le_refl _) (Nat.le_refl _) (tp1) rfl rfl ?_
  refine VW.istore (pc' := 30) d_Model_groups_28 rfl rfl ?_
  refine VW.iconst (pc' := 31) d_Model_groups_30 rfl (by decide) ?_
  refine VW.istore (pc' := 33) d_Model_groups_31 rfl rfl ?_
  refine VW.aload_n (pc' := 34) d_Model_groups_33 rfl rfl ?_
  refine VW.gP (ci := 11) (T := T11) (N := 94) (k := 57) (k' := 57) (pc' := 37) d_Model_groups_34 rfl lk_Model_147 in11 rfl rfl rfl rfl (hM.k rfl) (hM.p (r := some 257) 57 rfl rfl) ?_
  refine VW.iload_n (pc' := 38) d_Model_groups_37 rfl rfl ?_
  refine VW.ild (pc' := 39) d_Model_groups_38 rfl (hM.k rfl) (by omega) (by omega) (by first | exact hr | exact hw2 | exact hb2 | exact h258 _ | rfl) ?_
  refine VW.iconst (pc' := 40) d_Model_groups_39 rfl (by decide) ?_
  refine VW.icmp_ne (tgt := 79) (pc' := 43) d_Model_groups_40 rfl rfl (fun c40 => ?_) (fun c40 => ?_)
  · refine VW.iconst (pc' := 80) d_Model_groups_79 rfl (by decide) ?_
    refine VW.istore (pc' := 82) d_Model_groups_80 rfl rfl ?_
    refine VW.nrm ?_
    first | exact go0 c40 | exact go1 c40 _ (i0 c66) | exact go1 c40 _ (i1 c66)
  · refine VW.aload_n (pc' := 44) d_Model_groups_43 rfl rfl ?_
    refine VW.gP (ci := 11) (T := T11) (N := 94) (k := 70) (k' := 70) (pc' := 47) d_Model_groups_44 rfl lk_Model_178 in11 rfl rfl rfl rfl (hM.k rfl) (hM.p (r := some 270) 70 rfl rfl) ?_
    refine VW.iload (pc' := 49) d_Model_groups_47 rfl rfl ?_
    refine VW.ldc (pc' := 51) (z := -2147483648) d_Model_groups_49 rfl lk_Model_246 (by decide) (by decide) ?_
    refine VW.iast (pc' := 52) d_Model_groups_51 rfl (hM.k rfl) (by omega) (by omega) ?_
    refine VW.aload_n (pc' := 53) d_Model_groups_52 rfl rfl ?_
    refine VW.gP (ci := 11) (T := T11) (N := 94) (k := 70) (k' := 70) (pc' := 56) d_Model_groups_53 rfl lk_Model_178 in11 rfl rfl rfl rfl (hM.k rfl) (hM.p (r := some 270) 70 rfl rfl) ?_
    refine VW.iload (pc' := 58) d_Model_groups_56 rfl rfl ?_
    refine VW.iconst (pc' := 59) d_Model_groups_58 rfl (by decide) ?_
    refine VW.iadd (pc' := 60) d_Model_groups_59 rfl (by omega) ?_
    refine VW.aload_n (pc' := 61) d_Model_groups_60 rfl rfl ?_
    refine VW.gP (ci := 11) (T := T11) (N := 94) (k := 58) (k' := 58) (pc' := 64) d_Model_groups_61 rfl lk_Model_150 in11 rfl rfl rfl rfl (hM.k rfl) (hM.p (r := some 258) 58 rfl rfl) ?_
    refine VW.iload_n (pc' := 65) d_Model_groups_64 rfl rfl ?_
    refine VW.ild (pc' := 66) d_Model_groups_65 rfl (hM.k rfl) (by omega) (by omega) (by first | exact hr | exact hw2 | exact hb2 | exact h258 _ | rfl) ?_
    refine VW.if_ne (tgt := 73) (pc' := 69) d_Model_groups_66 rfl rfl (fun c66 => ?_) (fun c66 => ?_)
    · try have e66 := bIn c66
      refine VW.ldc (pc' := 75) (z := -2147483648) d_Model_groups_73 rfl lk_Model_246 (by decide) (by decide) ?_
      refine VW.iast (pc' := 76) d_Model_groups_75 rfl (hM.k rfl) (by omega) (by omega) ?_
      refine VW.iconst (pc' := 77) d_Model_groups_76 rfl (by decide) ?_
      refine VW.istore (pc' := 79) d_Model_groups_77 rfl rfl ?_
      refine VW.iconst (pc' := 80) d_Model_groups_79 rfl (by decide) ?_
      refine VW.istore (pc' := 82) d_Model_groups_80 rfl rfl ?_
      refine VW.nrm ?_
      first | exact go0 c40 | exact go1 c40 _ (i0 c66) | exact go1 c40 _ (i1 c66)
    · try have e66 := bIe c66
      refine VW.iconst (pc' := 70) d_Model_groups_69 rfl (by decide) ?_
      refine VW.goto (pc' := 75) d_Model_groups_70 rfl ?_
      refine VW.iast (pc' := 76) d_Model_groups_75 rfl (hM.k rfl) (by omega) (by omega) ?_
      refine VW.iconst (pc' := 77) d_Model_groups_76 rfl (by decide) ?_
      refine VW.istore (pc' := 79) d_Model_groups_77 rfl rfl ?_
      refine VW.iconst (pc' := 80) d_Model_groups_79 rfl (by decide) ?_
      refine VW.istore (pc' := 82) d_Model_groups_80 rfl rfl ?_
      refine VW.nrm ?_
      first | exact go0 c40 | exact go1 c40 _ (i0 c66) | exact go1 c40 _ (i1 c66)
end
