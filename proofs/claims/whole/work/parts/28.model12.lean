section
variable {K : KT} {P : PT} {J I : IT}
theorem cpyI_step2 {I : IT} {a b : Nat} {A B c : Int} (hab : a ≠ b) (h0 : 0 ≤ c) : up2 (cpyI I b B a A c) a (A + c) (cpyI I b B a A c b (B + c)) = cpyI I b B a A (c + 1) := by
  funext o k
  have e : cpyI I b B a A c b (B + c) = I b (B + c) := if_neg (fun z => hab z.1.symm)
  rw [e]
  unfold up2 cpyI
  by_cases h : o = a ∧ k = A + c
  · obtain ⟨h1, h2⟩ := h
    subst h1 h2
    rw [if_pos ⟨rfl, rfl⟩, if_pos ⟨rfl, by omega, by omega⟩, show A + c - A = c by omega]
  · rw [if_neg h]
    by_cases h2 : o = a ∧ A ≤ k ∧ k < A + c
    · rw [if_pos h2, if_pos ⟨h2.1, h2.2.1, by omega⟩]
    · rw [if_neg h2, if_neg (fun z => h ⟨z.1, Classical.byContradiction (fun q => h2 ⟨z.1, z.2.1, by omega⟩)⟩)]
/-- the writes of a statement go to the log: the first n -/
def mLog (I : IT) (i : Int) : Nat → IT
  | 0 => I
  | n + 1 => mnotes (mLog I i n) 0 i (mLog I i n 242 n) (mLog I i n 243 n)
theorem mLog_44 (I : IT) (i : Int) : ∀ n : Nat, mLog I i n 100 44 = I 100 44 + n := by
  intro n
  induction n with
  | zero => show I 100 44 = I 100 44 + 0; omega
  | succ n ih => show mnotes _ _ _ _ _ 100 44 = _; rw [mnotes_44, ih]; omega
theorem mnotes_fr {a b c d : Int} (o : Nat) (k : Int) (h1 : o < 246 ∨ 249 < o) (h2 : o ≠ 100 ∨ k ≠ 44) : mnotes I a b c d o k = I o k := by
  unfold mnotes up2
  rw [if_neg (fun z => h2.elim (fun q => q z.1) (fun q => q z.2)), if_neg (fun z => by omega), if_neg (fun z => by omega), if_neg (fun z => by omega), if_neg (fun z => by omega)]
theorem mLog_fr {i : Int} (n : Nat) (o : Nat) (k : Int) (h1 : o < 246 ∨ 249 < o) (h2 : o ≠ 100 ∨ k ≠ 44) : mLog I i n o k = I o k := by
  induction n with
  | zero => rfl
  | succ n ih => exact (mnotes_fr o k h1 h2).trans ih
theorem mLog_eq (I : IT) (i : Int) (n : Nat) : mnotes (mLog I i n) 0 i (mLog I i n 242 n) (mLog I i n 243 n) = mLog I i (n + 1) := rfl
theorem dm64 {k : Int} (h0 : 0 ≤ k) (h1 : k < 384) : 0 ≤ k.tdiv 64 ∧ k.tdiv 64 < 6 ∧ 0 ≤ k.tmod 64 ∧ k.tmod 64 < 64 ∧ 64 * k.tdiv 64 + k.tmod 64 = k := by
  rw [Int.tdiv_eq_ediv_of_nonneg h0, Int.tmod_eq_emod_of_nonneg h0]; omega
theorem MB.f215 {S : IT} (h : MB I) (f : ∀ o k, o ≠ 215 → S o k = I o k) : MB S :=
  h.of (f 100 0 (by decide)) (f 100 8 (by decide)) (f 100 19 (by decide)) (fun k => f 201 k (by decide)) (fun k => f 202 k (by decide)) (fun k => f 206 k (by decide)) (fun k => f 211 k (by decide)) (fun k => by rw [f 214 k (by decide)]; exact h.row k) (fun k => f 223 k (by decide)) (fun k => by rw [f 236 k (by decide)]; exact h.who k)
/-- the cell is blanked -/
def mBlG (S : IT) (s t r c : Int) : Prop := S 207 (4 * t + c) = 2 ∧ mBroken S s t r c
/-- the cells 1 .. n of a row that are blanked -/
noncomputable def mBlR (s t r : Int) : Nat → IT → IT
  | 0, S => S
  | n + 1, S => if bI (mBlG (mBlR s t r n S) s t r ((n : Int) + 1)) = 1 then up2 (mBlR s t r n S) 215 (4 * (64 * (6 * s + t) + r) + ((n : Int) + 1)) (-2147483648) else mBlR s t r n S
theorem mBlR_yes {s t r : Int} {n : Nat} {S : IT} (h : mBlG (mBlR s t r n S) s t r ((n : Int) + 1)) : up2 (mBlR s t r n S) 215 (4 * (64 * (6 * s + t) + r) + ((n : Int) + 1)) (-2147483648) = mBlR s t r (n + 1) S := (if_pos (bI1 h)).symm
theorem mBlR_no {s t r : Int} {n : Nat} {S : IT} (h : ¬ mBlG (mBlR s t r n S) s t r ((n : Int) + 1)) : mBlR s t r n S = mBlR s t r (n + 1) S := (if_neg (by rw [bI0 h]; decide)).symm
theorem mBlR_fr {s t r : Int} {S : IT} (n : Nat) : ∀ (o : Nat) (k : Int), o ≠ 215 → mBlR s t r n S o k = S o k := by
  induction n with
  | zero => intro o k h; rfl
  | succ n ih =>
    intro o k h
    by_cases g : mBlG (mBlR s t r n S) s t r ((n : Int) + 1)
    · rw [← mBlR_yes g, ← ih o k h]; exact if_neg (fun z => h z.1)
    · rw [← mBlR_no g]; exact ih o k h
/-- the first n places blanked -/
noncomputable def mBl (s : Int) : Nat → IT → IT
  | 0, S => S
  | n + 1, S => if mBl s n S 240 n = 0 then mBl s n S else mBlR s ((n : Int).tdiv 64) ((n : Int).tmod 64) (S 201 ((n : Int).tdiv 64) - 1).toNat (mBl s n S)
theorem mBl_no {s : Int} {n : Nat} {S : IT} (h : mBl s n S 240 n = 0) : mBl s (n + 1) S = mBl s n S := if_pos h
theorem mBl_yes {s : Int} {n : Nat} {S : IT} (h : mBl s n S 240 n ≠ 0) : mBl s (n + 1) S = mBlR s ((n : Int).tdiv 64) ((n : Int).tmod 64) (S 201 ((n : Int).tdiv 64) - 1).toNat (mBl s n S) := if_neg h
theorem mBl_fr {s : Int} {S : IT} (n : Nat) : ∀ (o : Nat) (k : Int), o ≠ 215 → mBl s n S o k = S o k := by
  induction n with
  | zero => intro o k h; rfl
  | succ n ih =>
    intro o k h
    by_cases g : mBl s n S 240 n = 0
    · rw [mBl_no g]; exact ih o k h
    · rw [mBl_yes g, mBlR_fr _ o k h]; exact ih o k h
/-- a row taken out -/
def mTake (S : IT) (s t r : Int) : IT := cpyI (up2 S 214 (6 * s + t) (S 214 (6 * s + t) - 1)) 215 (mrow s t (S 214 (6 * s + t) - 1)) 215 (mrow s t r) 4
theorem mTake_fr {S : IT} {s t r : Int} (o : Nat) (k : Int) (h : o ≠ 215) (h2 : o ≠ 214) : mTake S s t r o k = S o k := by
  unfold mTake cpyI up2
  rw [if_neg (fun z => h z.1), if_neg (fun z => h2 z.1)]
theorem mTake_214 {S : IT} {s t r k : Int} : mTake S s t r 214 k = if k = 6 * s + t then S 214 (6 * s + t) - 1 else S 214 k := by
  unfold mTake cpyI up2
  rw [if_neg (fun z => by omega)]
  by_cases h : k = 6 * s + t
  · rw [if_pos ⟨rfl, h⟩, if_pos h]
  · rw [if_neg (fun z => h z.2), if_neg h]
/-- the places below n that are gone taken out, the last first -/
noncomputable def mTk (s : Int) : Nat → IT → IT
  | 0, S => S
  | n + 1, S => if S 239 n = 0 then mTk s n S else mTk s n (mTake S s ((n : Int).tdiv 64) ((n : Int).tmod 64))
theorem mTk_no {s : Int} {n : Nat} {S : IT} (h : S 239 n = 0) : mTk s (n + 1) S = mTk s n S := if_pos h
theorem mTk_yes {s : Int} {n : Nat} {S : IT} (h : S 239 n ≠ 0) : mTk s (n + 1) S = mTk s n (mTake S s ((n : Int).tdiv 64) ((n : Int).tmod 64)) := if_neg h
/-- what is gone is a row -/
def mGoneIn (S : IT) (s : Int) (n : Nat) : Prop := ∀ j : Nat, j < n → S 239 j ≠ 0 → (j : Int).tmod 64 < S 214 (6 * s + (j : Int).tdiv 64)
noncomputable def mDeletes (I : IT) (s : Int) : IT := mTk s 384 (mBl s 384 I)
theorem sp_Model_deletes {s : Int} (hM : MW K P) (hb : MB I) (hs : 0 ≤ s ∧ s ≤ 4) (hg : mGoneIn I s 384) : Sp m_Model_deletes false (rmv 3 74) (ex K P J (mDeletes I s) (.inl none)) K P J I [vR (some 100), vI s] := by
  refine Sp.ofV (by decide) (Or.inr rfl) rfl ?_
  have loop2 : ∀ (n : Nat) (k : Int) (S : IT), k + 1 = n → n ≤ 384 → (∀ q, 0 ≤ S 214 q ∧ S 214 q ≤ 8) → mGoneIn S s n → mTk s n S = mDeletes I s → VW m_Model_deletes false (rmv 3 74) (ex K P J (mDeletes I s) (.inl none)) K P J S 0 0 103 [(0, vR (some 100)), (1, vI s), (2, vI k)] [] := by
    intro n
    induction n with
    | zero =>
      intro k S hk hn hr hgn he
      have e : S = mDeletes I s := he
      refine VW.iload_n (pc' := 104) d_Model_deletes_103 rfl rfl ?_
      refine VW.if_lt (tgt := 135) (pc' := 107) d_Model_deletes_104 rfl rfl (fun c104 => ?_) (fun c104 => ?_)
      · exact VW.vret d_Model_deletes_135 rfl (Nat.zero_le _) (Nat.zero_le _) (by rw [e]; exact ex_rf)
      · exfalso; omega
    | succ n ih =>
      intro k S hk hn hr hgn he
      have ek : k = n := by omega
      subst ek
      have d := dm64 (k := (n : Int)) (by omega) (by omega)
      have g0 := hgn n (by omega)
      have r0 := hr (6 * s + (n : Int).tdiv 64)
      have stay : S 239 n = 0 → VW m_Model_deletes false (rmv 3 74) (ex K P J (mDeletes I s) (.inl none)) K P J S 0 0 103 [(0, vR (some 100)), (1, vI s), (2, vI ((n : Int) + -1))] [] := fun z =>
        ih _ S (by omega) (by omega) hr (fun j hj => hgn j (by omega)) ((mTk_no z).symm.trans he)
      have take : S 239 n ≠ 0 → VW m_Model_deletes false (rmv 3 74) (ex K P J (mDeletes I s) (.inl none)) K P J (mTake S s ((n : Int).tdiv 64) ((n : Int).tmod 64)) 0 0 103 [(0, vR (some 100)), (1, vI s), (2, vI ((n : Int) + -1))] [] := fun z => by
        refine ih _ _ (by omega) (by omega) (fun q => ?_) (fun j hj hz => ?_) ((mTk_yes z).symm.trans he)
        · have g1 := g0 z
          rw [mTake_214]
          have := hr q
          split <;> omega
        · have g1 := g0 z
          have dj := dm64 (k := (j : Int)) (by omega) (by omega)
          rw [mTake_fr 239 _ (by decide) (by decide)] at hz
          have g2 := hgn j (by omega) hz
          rw [mTake_214]
          split
          · have : (j : Int).tdiv 64 = (n : Int).tdiv 64 := by omega
            omega
          · exact g2
      refine VW.iload_n (pc' := 104) d_Model_deletes_103 rfl rfl ?_
      refine VW.if_lt (tgt := 135) (pc' := 107) d_Model_deletes_104 rfl rfl (fun c104 => ?_) (fun c104 => ?_)
      · exfalso; omega
      · refine VW.aload_n (pc' := 108) d_Model_deletes_107 rfl rfl ?_
        refine VW.gP (ci := 11) (T := T11) (N := 94) (k := 39) (k' := 39) (pc' := 111) d_Model_deletes_108 rfl lk_Model_114 in11 rfl rfl rfl rfl (hM.k rfl) (hM.p (r := some 239) 39 rfl rfl) ?_
        refine VW.iload_n (pc' := 112) d_Model_deletes_111 rfl rfl ?_
        refine VW.zld (pc' := 113) d_Model_deletes_112 rfl (hM.k rfl) (by omega) (by omega) (by first | assumption | (simp [up2] <;> rfl) | rfl) ?_
        refine VW.if_eq (tgt := 129) (pc' := 116) d_Model_deletes_113 rfl rfl (fun c113 => ?_) (fun c113 => ?_)
        · try have e113 := bIe c113
          refine VW.iinc (pc' := 132) d_Model_deletes_129 rfl rfl rfl (by omega) ?_
          refine VW.goto (pc' := 103) d_Model_deletes_132 rfl ?_
          refine VW.nrm ?_
          first | exact stay c113 | exact take c113
        · try have e113 := bIn c113
          refine VW.aload_n (pc' := 117) d_Model_deletes_116 rfl rfl ?_
          refine VW.iload_n (pc' := 118) d_Model_deletes_117 rfl rfl ?_
          refine VW.iload_n (pc' := 119) d_Model_deletes_118 rfl rfl ?_
          refine VW.bipush (pc' := 121) d_Model_deletes_119 rfl (by decide) ?_
          refine VW.idiv (pc' := 122) d_Model_deletes_121 rfl (by omega) (by omega) ?_
          refine VW.iload_n (pc' := 123) d_Model_deletes_122 rfl rfl ?_
          refine VW.bipush (pc' := 125) d_Model_deletes_123 rfl (by decide) ?_
          refine VW.irem (pc' := 126) d_Model_deletes_125 rfl (by omega) (by omega) ?_
          have g1 := g0 c113
          refine VW.cV (ci := 11) (T := T11) (N := 94) (pc' := 129) d_Model_deletes_126 rfl mv_Model_takesOut lk_Model_344 rfl (hM.k rfl) rfl rfl rfl (Nat.le_refl _) (Nat.le_refl _) (sp_Model_takesOut hM hs (by omega) (by omega)) rfl rfl ?_
          refine VW.iinc (pc' := 132) d_Model_deletes_129 rfl rfl rfl (by omega) ?_
          refine VW.goto (pc' := 103) d_Model_deletes_132 rfl ?_
          refine VW.nrm ?_
          first | exact stay c113 | exact take c113
  have loop1 : ∀ (l n : Nat), n + l = 384 → VW m_Model_deletes false (rmv 3 74) (ex K P J (mDeletes I s) (.inl none)) K P J (mBl s n I) 0 0 2 [(0, vR (some 100)), (1, vI s), (2, vI (n : Int))] [] := by
    intro l
    induction l with
    | zero =>
      intro n hn
      have en : n = 384 := by omega
      have fr := @mBl_fr s I n
      refine VW.iload_n (pc' := 3) d_Model_deletes_2 rfl rfl ?_
      refine VW.sipush (pc' := 6) d_Model_deletes_3 rfl (by decide) ?_
      refine VW.icmp_ge (tgt := 99) (pc' := 9) d_Model_deletes_6 rfl rfl (fun c6 => ?_) (fun c6 => ?_)
      · refine VW.sipush (pc' := 102) d_Model_deletes_99 rfl (by decide) ?_
        refine VW.istore_n (pc' := 103) d_Model_deletes_102 rfl rfl ?_
        refine VW.nrm ?_
        exact loop2 384 383 _ (by omega) (by omega) (fun q => by rw [fr 214 q (by decide)]; exact hb.row q) (fun j hj hz => by rw [fr 239 j (by decide)] at hz; rw [fr 214 _ (by decide)]; exact hg j hj hz) (by rw [en]; rfl)
      · exfalso; omega
    | succ l ih =>
      intro n hn
      have d := dm64 (k := (n : Int)) (by omega) (by omega)
      have fr := @mBl_fr s I n
      have hbS := hb.f215 fr
      have ihn := ih (n + 1) (by omega)
      have en : ((n + 1 : Nat) : Int) = (n : Int) + 1 := by omega
      rw [en] at ihn
      have e201 := fr 201 ((n : Int).tdiv 64) (by decide)
      have c0 := hb.col ((n : Int).tdiv 64)
      have loopc : ∀ (S0 F : IT) (lc m : Nat) (c : Int), MB S0 → S0 201 ((n : Int).tdiv 64) = I 201 ((n : Int).tdiv 64) → (c + lc = I 201 ((n : Int).tdiv 64) ∨ (lc = 0 ∧ m = 0 ∧ I 201 ((n : Int).tdiv 64) ≤ 1)) → c = (m : Int) + 1 → (S0 240 n = 0 → m = 0 ∧ F = S0) → (S0 240 n ≠ 0 → F = mBlR s ((n : Int).tdiv 64) ((n : Int).tmod 64) (I 201 ((n : Int).tdiv 64) - 1).toNat S0) → VW m_Model_deletes false (rmv 3 74) (ex K P J (mDeletes I s) (.inl none)) K P J F 0 0 2 [(0, vR (some 100)), (1, vI s), (2, vI ((n : Int) + 1))] [] → VW m_Model_deletes false (rmv 3 74) (ex K P J (mDeletes I s) (.inl none)) K P J (mBlR s ((n : Int).tdiv 64) ((n : Int).tmod 64) m S0) 0 0 11 [(0, vR (some 100)), (1, vI s), (2, vI (n : Int)), (3, vI c)] [] := by
        clear ih ihn hbS fr e201 hg loop2
        intro S0 F lc
        induction lc with
        | zero =>
          intro m c hS0 hS0c hc hm hF0 hF1 hw
          subst hm
          have fm := @mBlR_fr s ((n : Int).tdiv 64) ((n : Int).tmod 64) S0 m
          have e1 := fm 201 ((n : Int).tdiv 64) (by decide)
          have e2 := fm 240 n (by decide)
          have eF : F = mBlR s ((n : Int).tdiv 64) ((n : Int).tmod 64) m S0 := by
            by_cases z : S0 240 n = 0
            · obtain ⟨z1, z2⟩ := hF0 z
              rw [z2, z1]; rfl
            · rw [hF1 z]; congr 1; omega
          rw [eF] at hw
          clear hF0 hF1 eF
          refine VW.iload_n (pc' := 12) d_Model_deletes_11 rfl rfl ?_
          refine VW.aload_n (pc' := 13) d_Model_deletes_12 rfl rfl ?_
          refine VW.gP (ci := 11) (T := T11) (N := 94) (k := 1) (k' := 1) (pc' := 16) d_Model_deletes_13 rfl lk_Model_7 in11 rfl rfl rfl rfl (hM.k rfl) (hM.p (r := some 201) 1 rfl rfl) ?_
          refine VW.iload_n (pc' := 17) d_Model_deletes_16 rfl rfl ?_
          refine VW.bipush (pc' := 19) d_Model_deletes_17 rfl (by decide) ?_
          refine VW.idiv (pc' := 20) d_Model_deletes_19 rfl (by omega) (by omega) ?_
          refine VW.ild (pc' := 21) d_Model_deletes_20 rfl (hM.k rfl) (by omega) (by omega) (rfl) ?_
          refine VW.icmp_ge (tgt := 93) (pc' := 24) d_Model_deletes_21 rfl rfl (fun c21 => ?_) (fun c21 => ?_)
          · refine VW.iinc (pc' := 96) d_Model_deletes_93 rfl rfl rfl (by omega) ?_
            refine VW.goto (pc' := 2) d_Model_deletes_96 rfl ?_
            refine VW.pick [0, 1, 2] ?_
            exact hw
          · refine VW.aload_n (pc' := 25) d_Model_deletes_24 rfl rfl ?_
            refine VW.gP (ci := 11) (T := T11) (N := 94) (k := 40) (k' := 40) (pc' := 28) d_Model_deletes_25 rfl lk_Model_117 in11 rfl rfl rfl rfl (hM.k rfl) (hM.p (r := some 240) 40 rfl rfl) ?_
            refine VW.iload_n (pc' := 29) d_Model_deletes_28 rfl rfl ?_
            refine VW.zld (pc' := 30) d_Model_deletes_29 rfl (hM.k rfl) (by omega) (by omega) (rfl) ?_
            refine VW.if_eq (tgt := 93) (pc' := 33) d_Model_deletes_30 rfl rfl (fun c30 => ?_) (fun c30 => ?_)
            · try have e30 := bIe c30
              refine VW.iinc (pc' := 96) d_Model_deletes_93 rfl rfl rfl (by omega) ?_
              refine VW.goto (pc' := 2) d_Model_deletes_96 rfl ?_
              refine VW.pick [0, 1, 2] ?_
              exact hw
            · try have e30 := bIn c30
              exfalso; omega
        | succ lc ihc =>
          intro m c hS0 hS0c hc hm hF0 hF1 hw
          subst hm
          have fm := @mBlR_fr s ((n : Int).tdiv 64) ((n : Int).tmod 64) S0 m
          have e1 := fm 201 ((n : Int).tdiv 64) (by decide)
          have e2 := fm 240 n (by decide)
          have hbm := hS0.f215 fm
          have next : S0 240 n ≠ 0 → VW m_Model_deletes false (rmv 3 74) (ex K P J (mDeletes I s) (.inl none)) K P J (mBlR s ((n : Int).tdiv 64) ((n : Int).tmod 64) (m + 1) S0) 0 0 11 [(0, vR (some 100)), (1, vI s), (2, vI (n : Int)), (3, vI ((m : Int) + 1 + 1))] [] := fun z =>
            ihc (m + 1) _ hS0 hS0c (by omega) (by omega) (fun y => absurd y z) hF1 hw
          have done : S0 240 n = 0 → VW m_Model_deletes false (rmv 3 74) (ex K P J (mDeletes I s) (.inl none)) K P J (mBlR s ((n : Int).tdiv 64) ((n : Int).tmod 64) m S0) 0 0 2 [(0, vR (some 100)), (1, vI s), (2, vI ((n : Int) + 1))] [] := fun z => by
            obtain ⟨z1, z2⟩ := hF0 z
            rw [z2] at hw
            rw [z1]; exact hw
          clear ihc hw hF0 hF1
          refine VW.iload_n (pc' := 12) d_Model_deletes_11 rfl rfl ?_
          refine VW.aload_n (pc' := 13) d_Model_deletes_12 rfl rfl ?_
          refine VW.gP (ci := 11) (T := T11) (N := 94) (k := 1) (k' := 1) (pc' := 16) d_Model_deletes_13 rfl lk_Model_7 in11 rfl rfl rfl rfl (hM.k rfl) (hM.p (r := some 201) 1 rfl rfl) ?_
          refine VW.iload_n (pc' := 17) d_Model_deletes_16 rfl rfl ?_
          refine VW.bipush (pc' := 19) d_Model_deletes_17 rfl (by decide) ?_
          refine VW.idiv (pc' := 20) d_Model_deletes_19 rfl (by omega) (by omega) ?_
          refine VW.ild (pc' := 21) d_Model_deletes_20 rfl (hM.k rfl) (by omega) (by omega) (rfl) ?_
          refine VW.icmp_ge (tgt := 93) (pc' := 24) d_Model_deletes_21 rfl rfl (fun c21 => ?_) (fun c21 => ?_)
          · refine VW.iinc (pc' := 96) d_Model_deletes_93 rfl rfl rfl (by omega) ?_
            refine VW.goto (pc' := 2) d_Model_deletes_96 rfl ?_
            refine VW.pick [0, 1, 2] ?_
            first | exact done (e2.symm.trans c30) | (exfalso; omega)
          · refine VW.aload_n (pc' := 25) d_Model_deletes_24 rfl rfl ?_
            refine VW.gP (ci := 11) (T := T11) (N := 94) (k := 40) (k' := 40) (pc' := 28) d_Model_deletes_25 rfl lk_Model_117 in11 rfl rfl rfl rfl (hM.k rfl) (hM.p (r := some 240) 40 rfl rfl) ?_
            refine VW.iload_n (pc' := 29) d_Model_deletes_28 rfl rfl ?_
            refine VW.zld (pc' := 30) d_Model_deletes_29 rfl (hM.k rfl) (by omega) (by omega) (rfl) ?_
            refine VW.if_eq (tgt := 93) (pc' := 33) d_Model_deletes_30 rfl rfl (fun c30 => ?_) (fun c30 => ?_)
            · try have e30 := bIe c30
              refine VW.iinc (pc' := 96) d_Model_deletes_93 rfl rfl rfl (by omega) ?_
              refine VW.goto (pc' := 2) d_Model_deletes_96 rfl ?_
              refine VW.pick [0, 1, 2] ?_
              first | exact done (e2.symm.trans c30) | (exfalso; omega)
            · try have e30 := bIn c30
              refine VW.aload_n (pc' := 34) d_Model_deletes_33 rfl rfl ?_
              refine VW.gP (ci := 11) (T := T11) (N := 94) (k := 7) (k' := 7) (pc' := 37) d_Model_deletes_34 rfl lk_Model_28 in11 rfl rfl rfl rfl (hM.k rfl) (hM.p (r := some 207) 7 rfl rfl) ?_
              refine VW.iconst (pc' := 38) d_Model_deletes_37 rfl (by decide) ?_
              refine VW.iload_n (pc' := 39) d_Model_deletes_38 rfl rfl ?_
              refine VW.bipush (pc' := 41) d_Model_deletes_39 rfl (by decide) ?_
              refine VW.idiv (pc' := 42) d_Model_deletes_41 rfl (by omega) (by omega) ?_
              refine VW.imul (pc' := 43) d_Model_deletes_42 rfl (by omega) ?_
              refine VW.iload_n (pc' := 44) d_Model_deletes_43 rfl rfl ?_
              refine VW.iadd (pc' := 45) d_Model_deletes_44 rfl (by omega) ?_
              refine VW.ild (pc' := 46) d_Model_deletes_45 rfl (hM.k rfl) (by omega) (by omega) (rfl) ?_
              refine VW.iconst (pc' := 47) d_Model_deletes_46 rfl (by decide) ?_
              refine VW.icmp_ne (tgt := 87) (pc' := 50) d_Model_deletes_47 rfl rfl (fun c47 => ?_) (fun c47 => ?_)
              · refine VW.nrm ?_
                first | rw [mBlR_yes ⟨c47, e64⟩] | rw [mBlR_no (fun z => c47 z.1)] | rw [mBlR_no (fun z => e64 z.2)]
                refine VW.iinc (pc' := 90) d_Model_deletes_87 rfl rfl rfl (by omega) ?_
                refine VW.goto (pc' := 11) d_Model_deletes_90 rfl ?_
                refine VW.nrm ?_
                exact next (fun z => c30 (e2.trans z))
              · refine VW.aload_n (pc' := 51) d_Model_deletes_50 rfl rfl ?_
                refine VW.iload_n (pc' := 52) d_Model_deletes_51 rfl rfl ?_
                refine VW.iload_n (pc' := 53) d_Model_deletes_52 rfl rfl ?_
                refine VW.bipush (pc' := 55) d_Model_deletes_53 rfl (by decide) ?_
                refine VW.idiv (pc' := 56) d_Model_deletes_55 rfl (by omega) (by omega) ?_
                refine VW.iload_n (pc' := 57) d_Model_deletes_56 rfl rfl ?_
                refine VW.bipush (pc' := 59) d_Model_deletes_57 rfl (by decide) ?_
                refine VW.irem (pc' := 60) d_Model_deletes_59 rfl (by omega) (by omega) ?_
                refine VW.iload_n (pc' := 61) d_Model_deletes_60 rfl rfl ?_
                refine VW.cV (ci := 11) (T := T11) (N := 94) (pc' := 64) d_Model_deletes_61 rfl mv_Model_isBroken lk_Model_328 rfl (hM.k rfl) rfl rfl rfl (Nat.le_refl _) (Nat.le_refl _) (sp_Model_isBroken hM hbm hs (by omega) (by omega) (by omega)) rfl rfl ?_
                refine VW.if_eq (tgt := 87) (pc' := 67) d_Model_deletes_64 rfl rfl (fun c64 => ?_) (fun c64 => ?_)
                · try have e64 := bIe c64
                  refine VW.nrm ?_
                  first | rw [mBlR_yes ⟨c47, e64⟩] | rw [mBlR_no (fun z => c47 z.1)] | rw [mBlR_no (fun z => e64 z.2)]
                  refine VW.iinc (pc' := 90) d_Model_deletes_87 rfl rfl rfl (by omega) ?_
                  refine VW.goto (pc' := 11) d_Model_deletes_90 rfl ?_
                  refine VW.nrm ?_
                  exact next (fun z => c30 (e2.trans z))
                · try have e64 := bIn c64
                  refine VW.aload_n (pc' := 68) d_Model_deletes_67 rfl rfl ?_
                  refine VW.gP (ci := 11) (T := T11) (N := 94) (k := 15) (k' := 15) (pc' := 71) d_Model_deletes_68 rfl lk_Model_49 in11 rfl rfl rfl rfl (hM.k rfl) (hM.p (r := some 215) 15 rfl rfl) ?_
                  refine VW.iload_n (pc' := 72) d_Model_deletes_71 rfl rfl ?_
                  refine VW.iload_n (pc' := 73) d_Model_deletes_72 rfl rfl ?_
                  refine VW.bipush (pc' := 75) d_Model_deletes_73 rfl (by decide) ?_
                  refine VW.idiv (pc' := 76) d_Model_deletes_75 rfl (by omega) (by omega) ?_
                  refine VW.iload_n (pc' := 77) d_Model_deletes_76 rfl rfl ?_
                  refine VW.bipush (pc' := 79) d_Model_deletes_77 rfl (by decide) ?_
                  refine VW.irem (pc' := 80) d_Model_deletes_79 rfl (by omega) (by omega) ?_
                  refine VW.iload_n (pc' := 81) d_Model_deletes_80 rfl rfl ?_
                  refine VW.cS (pc' := 84) d_Model_deletes_81 rfl ms_Model_cell lk_Model_273 rfl rfl rfl (Nat.le_refl _) (Nat.le_refl _) (sp_Model_cell (by omega) (by omega) (by omega) (by omega)) rfl rfl ?_
                  refine VW.ldc (pc' := 86) (z := -2147483648) d_Model_deletes_84 rfl lk_Model_246 (by decide) (by decide) ?_
                  refine VW.iast (pc' := 87) d_Model_deletes_86 rfl (hM.k rfl) (by omega) (by omega) ?_
                  refine VW.nrm ?_
                  first | rw [mBlR_yes ⟨c47, e64⟩] | rw [mBlR_no (fun z => c47 z.1)] | rw [mBlR_no (fun z => e64 z.2)]
                  refine VW.iinc (pc' := 90) d_Model_deletes_87 rfl rfl rfl (by omega) ?_
                  refine VW.goto (pc' := 11) d_Model_deletes_90 rfl ?_
                  refine VW.nrm ?_
                  exact next (fun z => c30 (e2.trans z))
      have start : ∀ F, F = mBl s (n + 1) I → VW m_Model_deletes false (rmv 3 74) (ex K P J (mDeletes I s) (.inl none)) K P J (mBlR s ((n : Int).tdiv 64) ((n : Int).tmod 64) 0 (mBl s n I)) 0 0 11 [(0, vR (some 100)), (1, vI s), (2, vI (n : Int)), (3, vI 1)] [] := fun F hF =>
        loopc (mBl s n I) F (I 201 ((n : Int).tdiv 64) - 1).toNat 0 1 hbS e201 (by omega) (by omega) (fun z => ⟨rfl, hF.trans (mBl_no z)⟩) (fun z => hF.trans (mBl_yes z)) (hF ▸ ihn)
      refine VW.iload_n (pc' := 3) d_Model_deletes_2 rfl rfl ?_
      refine VW.sipush (pc' := 6) d_Model_deletes_3 rfl (by decide) ?_
      refine VW.icmp_ge (tgt := 99) (pc' := 9) d_Model_deletes_6 rfl rfl (fun c6 => ?_) (fun c6 => ?_)
      · exfalso; omega
      · refine VW.iconst (pc' := 10) d_Model_deletes_9 rfl (by decide) ?_
        refine VW.istore_n (pc' := 11) d_Model_deletes_10 rfl rfl ?_
        refine VW.nrm ?_
        exact start _ rfl
  refine VW.iconst (pc' := 1) d_Model_deletes_0 rfl (by decide) ?_
  refine VW.istore_n (pc' := 2) d_Model_deletes_1 rfl rfl ?_
  refine VW.nrm ?_
  exact loop1 384 0 rfl
end
