section
variable {K : KT} {P : PT} {J I : IT}
theorem mends_o {i as : Int} (o : Nat) (k : Int) (h1 : o ≠ 221) (h2 : o ≠ 225) (h3 : o ≠ 226) : mends I i as o k = I o k := by
  unfold mends
  rw [up2_o _ _ _ _ h3, up2_o _ _ _ _ h2, up2_o _ _ _ _ h1]
/-- those under way among the first n are ended -/
noncomputable def mCr1 : Nat → IT → IT
  | 0, S => S
  | n + 1, S => if mCr1 n S 221 n < 2 then mends (mCr1 n S) n 3 else mCr1 n S
theorem mCr1_yes {n : Nat} {S : IT} (h : mCr1 n S 221 n < 2) : mends (mCr1 n S) n 3 = mCr1 (n + 1) S := (if_pos h).symm
theorem mCr1_no {n : Nat} {S : IT} (h : ¬ mCr1 n S 221 n < 2) : mCr1 n S = mCr1 (n + 1) S := (if_neg h).symm
theorem mCr1_o {S : IT} (n : Nat) : ∀ (o : Nat) (k : Int), o ≠ 221 → o ≠ 225 → o ≠ 226 → mCr1 n S o k = S o k := by
  induction n with
  | zero => intro o k h1 h2 h3; rfl
  | succ n ih =>
    intro o k h1 h2 h3
    by_cases g : mCr1 n S 221 n < 2
    · rw [← mCr1_yes g, mends_o o k h1 h2 h3]; exact ih o k h1 h2 h3
    · rw [← mCr1_no g]; exact ih o k h1 h2 h3
def mHas (S : IT) (i w : Int) : Prop := ∃ j, 0 ≤ j ∧ j < S 100 44 ∧ (S 246 j = w ∧ S 247 j = i)
/-- a transaction whose writes are left, but no end -/
def mLeftG (S : IT) (i : Int) : Prop := mHas S i 0 ∧ ¬ mHas S i 1 ∧ ¬ mHas S i 3
noncomputable def mCr2 (S : IT) : Nat → IT × Int
  | 0 => (S, 0)
  | n + 1 => if bI (mLeftG (mCr2 S n).1 n) = 1 then (mUndoes (mCr2 S n).1 n, (mCr2 S n).2 + (mUnR (mCr2 S n).1 n).2) else mCr2 S n
theorem mCr2_yes {n : Nat} {S : IT} (h : mLeftG (mCr2 S n).1 n) : mCr2 S (n + 1) = (mUndoes (mCr2 S n).1 n, (mCr2 S n).2 + (mUnR (mCr2 S n).1 n).2) := if_pos (bI1 h)
theorem mCr2_no {n : Nat} {S : IT} (h : ¬ mLeftG (mCr2 S n).1 n) : mCr2 S (n + 1) = mCr2 S n := if_neg (by rw [bI0 h]; decide)
theorem mUn_n (i : Int) : ∀ (n : Nat) (sk : Int) (S : IT) (c : Int), c ≤ (mUn i n sk S c).2 ∧ (mUn i n sk S c).1 100 44 = S 100 44 + ((mUn i n sk S c).2 - c) := by
  intro n
  induction n with
  | zero => intro sk S c; exact ⟨Int.le_refl _, by show S 100 44 = S 100 44 + (c - c); omega⟩
  | succ n ih =>
    intro sk S c
    by_cases h : S 246 n = 0 ∧ S 247 n = i
    · by_cases h2 : 0 < sk
      · rw [mUn_skip h h2]; exact ih _ _ _
      · rw [mUn_yes h (by omega)]; have := ih sk (mnotes S 2 i (S 248 n) (S 249 n)) (c + 1); rw [mnotes_44] at this; omega
    · rw [mUn_no h]; exact ih _ _ _
theorem mUndoes_n (S : IT) (i : Int) : 0 ≤ (mUnR S i).2 ∧ (mUnR S i).1 100 44 = S 100 44 + (mUnR S i).2 ∧ mUndoes S i 100 44 = S 100 44 + (mUnR S i).2 + 1 := by
  have a := mUn_n i (S 100 44).toNat (cntI (mUnG S i) (S 100 44).toNat) S 0
  have b : mUndoes S i 100 44 = (mUnR S i).1 100 44 + 1 := mnotes_44 _ _ _ _ _
  unfold mUnR at b ⊢
  omega
theorem mnotes_o {a b c d : Int} (o : Nat) (k : Int) (h1 : o < 246 ∨ 249 < o) (h2 : o ≠ 100) : mnotes I a b c d o k = I o k := mnotes_fr o k h1 (Or.inl h2)
theorem mUn_o (i : Int) : ∀ (n : Nat) (sk : Int) (S : IT) (c : Int) (o : Nat) (k : Int), (o < 246 ∨ 249 < o) → (o ≠ 100 ∨ k ≠ 44) → (mUn i n sk S c).1 o k = S o k := by
  intro n
  induction n with
  | zero => intro sk S c o k h1 h2; rfl
  | succ n ih =>
    intro sk S c o k h1 h2
    by_cases h : S 246 n = 0 ∧ S 247 n = i
    · by_cases h3 : 0 < sk
      · rw [mUn_skip h h3]; exact ih _ _ _ o k h1 h2
      · rw [mUn_yes h (by omega), ih _ _ _ o k h1 h2]; exact mnotes_fr o k h1 h2
    · rw [mUn_no h]; exact ih _ _ _ o k h1 h2
theorem mUndoes_o (S : IT) (i : Int) (o : Nat) (k : Int) (h1 : o < 246 ∨ 249 < o) (h2 : o ≠ 100 ∨ k ≠ 44) : mUndoes S i o k = S o k := (mnotes_fr o k h1 h2).trans (mUn_o i _ _ S 0 o k h1 h2)
theorem mCr2_n (S : IT) : ∀ n : Nat, 0 ≤ (mCr2 S n).2 ∧ S 100 44 + (mCr2 S n).2 ≤ (mCr2 S n).1 100 44 ∧ ∀ (o : Nat) (k : Int), (o < 246 ∨ 249 < o) → (o ≠ 100 ∨ k ≠ 44) → (mCr2 S n).1 o k = S o k := by
  intro n
  induction n with
  | zero => exact ⟨Int.le_refl _, by show S 100 44 + 0 ≤ S 100 44; omega, fun o k _ _ => rfl⟩
  | succ n ih =>
    by_cases h : mLeftG (mCr2 S n).1 n
    · rw [mCr2_yes h]
      have := mUndoes_n (mCr2 S n).1 n
      exact ⟨by show 0 ≤ (mCr2 S n).2 + (mUnR (mCr2 S n).1 n).2; omega, by show S 100 44 + ((mCr2 S n).2 + (mUnR (mCr2 S n).1 n).2) ≤ mUndoes (mCr2 S n).1 n 100 44; omega, fun o k h1 h2 => (mUndoes_o _ _ o k h1 h2).trans (ih.2.2 o k h1 h2)⟩
    · rw [mCr2_no h]; exact ih
theorem mCr2_mono (S : IT) (m : Nat) : ∀ n : Nat, m ≤ n → (mCr2 S m).1 100 44 ≤ (mCr2 S n).1 100 44 := by
  intro n
  induction n with
  | zero => intro h; rw [show m = 0 by omega]; exact Int.le_refl _
  | succ n ih =>
    intro h
    by_cases e : m = n + 1
    · rw [e]; exact Int.le_refl _
    · have a := ih (by omega)
      by_cases g : mLeftG (mCr2 S n).1 n
      · have := mUndoes_n (mCr2 S n).1 n
        rw [mCr2_yes g]; show _ ≤ mUndoes (mCr2 S n).1 n 100 44; omega
      · rw [mCr2_no g]; exact a
/-- the reference once the log is cut and those under way have ended -/
noncomputable def mCrS (S : IT) (x : Int) : IT := mCr1 (S 100 19).toNat (up2 S 100 44 x)
noncomputable def mCrR (S : IT) (x : Int) : IT × Int := mCr2 (mCrS S x) (S 100 19).toNat
noncomputable def cd_Model_crash (I : IT) (x : Int) : Int := if bI (I 100 45 ≤ x ∧ x ≤ I 100 44) = 0 then 1 else 0
noncomputable def f_Model_crash  (x : Int) (S : IT) : IT × Int := (up2 (mCrR S x).1 100 45 ((mCrR S x).1 100 44), (mCrR S x).2)
noncomputable def r_Model_crash  (I : IT) (x : Int) : IT × Int := callR (cd_Model_crash I x) I (f_Model_crash  x)
theorem sp_Model_crash {x : Int} (hM : MW K P) (hb : MB I) (h44 : 0 ≤ I 100 45 ∧ I 100 44 ≤ 16384) (hU : cd_Model_crash I x = 0 → (mCrR (up2 I 100 93 0) x).1 100 44 ≤ 16384) : Sp m_Model_crash false (rmv 2 49) (ex K P J (r_Model_crash  I x).1 (.inl (some (vI (r_Model_crash  I x).2)))) K P J I [vR (some 100), vI x] := by
  refine Sp.ofV (by decide) (Or.inr rfl) rfl ?_
  have rest : ∀ S : IT, (S = up2 I 100 93 0) → (cd_Model_crash I x = 0) → ((bI (I 100 45 ≤ x ∧ x ≤ I 100 44) ≠ 0)) → VW m_Model_crash false (rmv 2 49) (ex K P J (f_Model_crash  x S).1 (.inl (some (vI (f_Model_crash  x S).2)))) K P J S 0 0 29 [(0, vR (some 100)), (1, vI x)] [] := by
    intro S eS hcd q
    have u : ∀ (o : Nat) (k : Int), (o ≠ 100 ∨ k ≠ 93) → S o k = I o k := fun o k h => by rw [eS]; exact if_neg (fun z => h.elim (fun y => y z.1) (fun y => y z.2))
    have q2 := bIn q
    have b0 := hb.trn
    have hp := hU hcd
    rw [← eS] at hp
    have hbS := hb.u93 u
    rw [← u 100 19 (by decide)] at b0
    clear u q hU hcd eS
    have hx : 0 ≤ x ∧ x ≤ 16384 := by omega
    have loop2 : ∀ (l m : Nat), m + l = S 100 19 → VW m_Model_crash false (rmv 2 49) (ex K P J (f_Model_crash x S).1 (.inl (some (vI (f_Model_crash x S).2)))) K P J (mCr2 (mCrS S x) m).1 0 0 70 [(0, vR (some 100)), (1, vI x), (2, vI (mCr2 (mCrS S x) m).2), (3, vI (m : Int))] [] := by
      have e1 : mCrS S x 100 44 = x := (mCr1_o _ 100 44 (by decide) (by decide) (by decide)).trans (up2_eq _ _ _ _)
      have e2 : mCrS S x 100 19 = S 100 19 := (mCr1_o _ 100 19 (by decide) (by decide) (by decide)).trans (up2_k _ _ _ _ (by decide))
      intro l
      induction l with
      | zero =>
        intro m hm
        have em : (S 100 19).toNat = m := by omega
        have n1 := mCr2_n (mCrS S x) m
        have e19 : (mCr2 (mCrS S x) m).1 100 19 = S 100 19 := (n1.2.2 100 19 (by decide) (by decide)).trans e2
        have eF : f_Model_crash x S = (up2 (mCr2 (mCrS S x) m).1 100 45 ((mCr2 (mCrS S x) m).1 100 44), (mCr2 (mCrS S x) m).2) := by unfold f_Model_crash mCrR; rw [em]
        clear hp n1
        generalize mCr2 (mCrS S x) m = T at *
        refine VW.iload_n (pc' := 71) d_Model_crash_70 rfl rfl ?_
        refine VW.aload_n (pc' := 72) d_Model_crash_71 rfl rfl ?_
        refine VW.gI (ci := 11) (T := T11) (N := 94) (k := 19) (k' := 19) (pc' := 75) d_Model_crash_72 rfl lk_Model_247 in11 rfl rfl rfl rfl (hM.k rfl) (by first | exact e19 | rfl) ?_
        refine VW.icmp_ge (tgt := 119) (pc' := 78) d_Model_crash_75 rfl rfl (fun c75 => ?_) (fun c75 => ?_)
        · refine VW.aload_n (pc' := 120) d_Model_crash_119 rfl rfl ?_
          refine VW.aload_n (pc' := 121) d_Model_crash_120 rfl rfl ?_
          refine VW.gI (ci := 11) (T := T11) (N := 94) (k := 44) (k' := 44) (pc' := 124) d_Model_crash_121 rfl lk_Model_294 in11 rfl rfl rfl rfl (hM.k rfl) (by first | exact e19 | rfl) ?_
          refine VW.pI (ci := 11) (T := T11) (N := 94) (k := 45) (k' := 45) (ty := ty11) (pc' := 127) d_Model_crash_124 rfl lk_Model_394 in11 tk11 nm11 rfl rfl rfl rfl rfl rfl (hM.k rfl) ?_
          refine VW.iload_n (pc' := 128) d_Model_crash_127 rfl rfl ?_
          exact VW.iret d_Model_crash_128 rfl rfl (Nat.zero_le _) (Nat.zero_le _) (ex_r eF)
        · exfalso; omega
      | succ l ih =>
        intro m hm
        have n1 := mCr2_n (mCrS S x) m
        have e19 : (mCr2 (mCrS S x) m).1 100 19 = S 100 19 := (n1.2.2 100 19 (by decide) (by decide)).trans e2
        have mo := mCr2_mono (mCrS S x) (m + 1) (S 100 19).toNat (by omega)
        have mo0 := mCr2_mono (mCrS S x) m (S 100 19).toNat (by omega)
        have hp' : (mCr2 (mCrS S x) (S 100 19).toNat).1 100 44 ≤ 16384 := hp
        have un := mUndoes_n (mCr2 (mCrS S x) m).1 m
        have ih1 := ih (m + 1) (by omega)
        have em : ((m + 1 : Nat) : Int) = (m : Int) + 1 := by omega
        rw [em] at ih1
        have fit : mLeftG (mCr2 (mCrS S x) m).1 m → mUndoes (mCr2 (mCrS S x) m).1 m 100 44 ≤ 16384 := fun z => by
          rw [mCr2_yes z] at mo
          exact Int.le_trans mo hp'
        have le44 : (mCr2 (mCrS S x) m).1 100 44 ≤ 16384 := Int.le_trans mo0 hp'
        have ge44 : 0 ≤ (mCr2 (mCrS S x) m).2 ∧ x + (mCr2 (mCrS S x) m).2 ≤ (mCr2 (mCrS S x) m).1 100 44 := ⟨n1.1, by have := n1.2.1; rw [e1] at this; exact this⟩
        have yes : mLeftG (mCr2 (mCrS S x) m).1 m → VW m_Model_crash false (rmv 2 49) (ex K P J (f_Model_crash x S).1 (.inl (some (vI (f_Model_crash x S).2)))) K P J (mUndoes (mCr2 (mCrS S x) m).1 m) 0 0 70 [(0, vR (some 100)), (1, vI x), (2, vI ((mCr2 (mCrS S x) m).2 + (mUnR (mCr2 (mCrS S x) m).1 m).2)), (3, vI ((m : Int) + 1))] [] := fun z => by
          rw [mCr2_yes z] at ih1
          exact ih1
        have no : ¬ mLeftG (mCr2 (mCrS S x) m).1 m → VW m_Model_crash false (rmv 2 49) (ex K P J (f_Model_crash x S).1 (.inl (some (vI (f_Model_crash x S).2)))) K P J (mCr2 (mCrS S x) m).1 0 0 70 [(0, vR (some 100)), (1, vI x), (2, vI (mCr2 (mCrS S x) m).2), (3, vI ((m : Int) + 1))] [] := fun z => by
          rw [mCr2_no z] at ih1
          exact ih1
        clear mo mo0 hp' ih ih1 n1 hp
        generalize mCr2 (mCrS S x) m = T at *
        have hr := fun (w : Int) => sp_Model_hasRecord (K := K) (P := P) (J := J) (I := T.1) (i := m) (w := w) hM (by omega)
        have ud : mLeftG T.1 m → Sp m_Model_undoes false (rmv 1 24) (ex K P J (mUndoes T.1 m) (.inl (some (vI (mUnR T.1 m).2)))) K P J T.1 [vR (some 100), vI (m : Int)] := fun z => sp_Model_undoes hM (by omega) (by have := fit z; omega)
        have rg : mLeftG T.1 m → T.2 + (mUnR T.1 m).2 ≤ 16384 := fun z => by have := fit z; omega
        refine VW.iload_n (pc' := 71) d_Model_crash_70 rfl rfl ?_
        refine VW.aload_n (pc' := 72) d_Model_crash_71 rfl rfl ?_
        refine VW.gI (ci := 11) (T := T11) (N := 94) (k := 19) (k' := 19) (pc' := 75) d_Model_crash_72 rfl lk_Model_247 in11 rfl rfl rfl rfl (hM.k rfl) (by first | exact e19 | rfl) ?_
        refine VW.icmp_ge (tgt := 119) (pc' := 78) d_Model_crash_75 rfl rfl (fun c75 => ?_) (fun c75 => ?_)
        · exfalso; omega
        · refine VW.aload_n (pc' := 79) d_Model_crash_78 rfl rfl ?_
          refine VW.iload_n (pc' := 80) d_Model_crash_79 rfl rfl ?_
          refine VW.iconst (pc' := 81) d_Model_crash_80 rfl (by decide) ?_
          refine VW.cV (ci := 11) (T := T11) (N := 94) (pc' := 84) d_Model_crash_81 rfl mv_Model_hasRecord lk_Model_569 rfl (hM.k rfl) rfl rfl rfl (Nat.le_refl _) (Nat.le_refl _) (hr _) rfl rfl ?_
          refine VW.if_eq (tgt := 113) (pc' := 87) d_Model_crash_84 rfl rfl (fun c84 => ?_) (fun c84 => ?_)
          · try have e84 := bIe c84
            refine VW.iinc (pc' := 116) d_Model_crash_113 rfl rfl rfl (by omega) ?_
            refine VW.goto (pc' := 70) d_Model_crash_116 rfl ?_
            refine VW.nrm ?_
            first | exact yes ⟨e84, e93, e102⟩ | exact no (fun z => e84 z.1) | exact no (fun z => z.2.1 e93) | exact no (fun z => z.2.2 e102)
          · try have e84 := bIn c84
            refine VW.aload_n (pc' := 88) d_Model_crash_87 rfl rfl ?_
            refine VW.iload_n (pc' := 89) d_Model_crash_88 rfl rfl ?_
            refine VW.iconst (pc' := 90) d_Model_crash_89 rfl (by decide) ?_
            refine VW.cV (ci := 11) (T := T11) (N := 94) (pc' := 93) d_Model_crash_90 rfl mv_Model_hasRecord lk_Model_569 rfl (hM.k rfl) rfl rfl rfl (Nat.le_refl _) (Nat.le_refl _) (hr _) rfl rfl ?_
            refine VW.if_ne (tgt := 113) (pc' := 96) d_Model_crash_93 rfl rfl (fun c93 => ?_) (fun c93 => ?_)
            · try have e93 := bIn c93
              refine VW.iinc (pc' := 116) d_Model_crash_113 rfl rfl rfl (by omega) ?_
              refine VW.goto (pc' := 70) d_Model_crash_116 rfl ?_
              refine VW.nrm ?_
              first | exact yes ⟨e84, e93, e102⟩ | exact no (fun z => e84 z.1) | exact no (fun z => z.2.1 e93) | exact no (fun z => z.2.2 e102)
            · try have e93 := bIe c93
              refine VW.aload_n (pc' := 97) d_Model_crash_96 rfl rfl ?_
              refine VW.iload_n (pc' := 98) d_Model_crash_97 rfl rfl ?_
              refine VW.iconst (pc' := 99) d_Model_crash_98 rfl (by decide) ?_
              refine VW.cV (ci := 11) (T := T11) (N := 94) (pc' := 102) d_Model_crash_99 rfl mv_Model_hasRecord lk_Model_569 rfl (hM.k rfl) rfl rfl rfl (Nat.le_refl _) (Nat.le_refl _) (hr _) rfl rfl ?_
              refine VW.if_ne (tgt := 113) (pc' := 105) d_Model_crash_102 rfl rfl (fun c102 => ?_) (fun c102 => ?_)
              · try have e102 := bIn c102
                refine VW.iinc (pc' := 116) d_Model_crash_113 rfl rfl rfl (by omega) ?_
                refine VW.goto (pc' := 70) d_Model_crash_116 rfl ?_
                refine VW.nrm ?_
                first | exact yes ⟨e84, e93, e102⟩ | exact no (fun z => e84 z.1) | exact no (fun z => z.2.1 e93) | exact no (fun z => z.2.2 e102)
              · try have e102 := bIe c102
                refine VW.iload_n (pc' := 106) d_Model_crash_105 rfl rfl ?_
                refine VW.aload_n (pc' := 107) d_Model_crash_106 rfl rfl ?_
                refine VW.iload_n (pc' := 108) d_Model_crash_107 rfl rfl ?_
                refine VW.cV (ci := 11) (T := T11) (N := 94) (pc' := 111) d_Model_crash_108 rfl mv_Model_undoes lk_Model_572 rfl (hM.k rfl) rfl rfl rfl (Nat.le_refl _) (Nat.le_refl _) (ud ⟨e84, e93, e102⟩) rfl rfl ?_
                have rg1 := rg ⟨e84, e93, e102⟩
                refine VW.iadd (pc' := 112) d_Model_crash_111 rfl (by omega) ?_
                refine VW.istore_n (pc' := 113) d_Model_crash_112 rfl rfl ?_
                refine VW.iinc (pc' := 116) d_Model_crash_113 rfl rfl rfl (by omega) ?_
                refine VW.goto (pc' := 70) d_Model_crash_116 rfl ?_
                refine VW.nrm ?_
                first | exact yes ⟨e84, e93, e102⟩ | exact no (fun z => e84 z.1) | exact no (fun z => z.2.1 e93) | exact no (fun z => z.2.2 e102)
    have l2 := loop2 (S 100 19).toNat 0 (by omega)
    clear loop2
    have loop1 : ∀ (l m : Nat), m + l = S 100 19 → VW m_Model_crash false (rmv 2 49) (ex K P J (f_Model_crash x S).1 (.inl (some (vI (f_Model_crash x S).2)))) K P J (mCr1 m (up2 S 100 44 x)) 0 0 36 [(0, vR (some 100)), (1, vI x), (2, vI (m : Int))] [] := by
      intro l
      induction l with
      | zero =>
        intro m hm
        have em : (S 100 19).toNat = m := by omega
        have e19 : mCr1 m (up2 S 100 44 x) 100 19 = S 100 19 := (mCr1_o _ 100 19 (by decide) (by decide) (by decide)).trans (up2_k _ _ _ _ (by decide))
        unfold mCrS at l2
        rw [em] at l2
        refine VW.iload_n (pc' := 37) d_Model_crash_36 rfl rfl ?_
        refine VW.aload_n (pc' := 38) d_Model_crash_37 rfl rfl ?_
        refine VW.gI (ci := 11) (T := T11) (N := 94) (k := 19) (k' := 19) (pc' := 41) d_Model_crash_38 rfl lk_Model_247 in11 rfl rfl rfl rfl (hM.k rfl) (by first | exact e19 | rfl) ?_
        refine VW.icmp_ge (tgt := 66) (pc' := 44) d_Model_crash_41 rfl rfl (fun c41 => ?_) (fun c41 => ?_)
        · refine VW.iconst (pc' := 67) d_Model_crash_66 rfl (by decide) ?_
          refine VW.istore_n (pc' := 68) d_Model_crash_67 rfl rfl ?_
          refine VW.iconst (pc' := 69) d_Model_crash_68 rfl (by decide) ?_
          refine VW.istore_n (pc' := 70) d_Model_crash_69 rfl rfl ?_
          refine VW.nrm ?_
          exact l2
        · exfalso; omega
      | succ l ih =>
        intro m hm
        have e19 : mCr1 m (up2 S 100 44 x) 100 19 = S 100 19 := (mCr1_o _ 100 19 (by decide) (by decide) (by decide)).trans (up2_k _ _ _ _ (by decide))
        have e223 : mCr1 m (up2 S 100 44 x) 223 m = S 223 m := (mCr1_o _ 223 m (by decide) (by decide) (by decide)).trans (up2_o _ _ _ _ (by decide))
        have p0 := hbS.pla m
        rw [← e223] at p0
        have ih1 := ih (m + 1) (by omega)
        have em : ((m + 1 : Nat) : Int) = (m : Int) + 1 := by omega
        rw [em] at ih1
        have yes : mCr1 m (up2 S 100 44 x) 221 m < 2 → VW m_Model_crash false (rmv 2 49) (ex K P J (f_Model_crash x S).1 (.inl (some (vI (f_Model_crash x S).2)))) K P J (mends (mCr1 m (up2 S 100 44 x)) m 3) 0 0 36 [(0, vR (some 100)), (1, vI x), (2, vI ((m : Int) + 1))] [] := fun z => by rw [mCr1_yes z]; exact ih1
        have no : ¬ mCr1 m (up2 S 100 44 x) 221 m < 2 → VW m_Model_crash false (rmv 2 49) (ex K P J (f_Model_crash x S).1 (.inl (some (vI (f_Model_crash x S).2)))) K P J (mCr1 m (up2 S 100 44 x)) 0 0 36 [(0, vR (some 100)), (1, vI x), (2, vI ((m : Int) + 1))] [] := fun z => by
          have := mCr1_no z
          rw [← this] at ih1
          exact ih1
        clear ih ih1 l2 hp
        generalize mCr1 m (up2 S 100 44 x) = T at *
        refine VW.iload_n (pc' := 37) d_Model_crash_36 rfl rfl ?_
        refine VW.aload_n (pc' := 38) d_Model_crash_37 rfl rfl ?_
        refine VW.gI (ci := 11) (T := T11) (N := 94) (k := 19) (k' := 19) (pc' := 41) d_Model_crash_38 rfl lk_Model_247 in11 rfl rfl rfl rfl (hM.k rfl) (by first | exact e19 | rfl) ?_
        refine VW.icmp_ge (tgt := 66) (pc' := 44) d_Model_crash_41 rfl rfl (fun c41 => ?_) (fun c41 => ?_)
        · exfalso; omega
        · refine VW.aload_n (pc' := 45) d_Model_crash_44 rfl rfl ?_
          refine VW.gP (ci := 11) (T := T11) (N := 94) (k := 21) (k' := 21) (pc' := 48) d_Model_crash_45 rfl lk_Model_61 in11 rfl rfl rfl rfl (hM.k rfl) (hM.p (r := some 221) 21 rfl rfl) ?_
          refine VW.iload_n (pc' := 49) d_Model_crash_48 rfl rfl ?_
          refine VW.ild (pc' := 50) d_Model_crash_49 rfl (hM.k rfl) (by omega) (by omega) (by first | exact e19 | rfl) ?_
          refine VW.iconst (pc' := 51) d_Model_crash_50 rfl (by decide) ?_
          refine VW.icmp_ge (tgt := 60) (pc' := 54) d_Model_crash_51 rfl rfl (fun c51 => ?_) (fun c51 => ?_)
          · refine VW.iinc (pc' := 63) d_Model_crash_60 rfl rfl rfl (by omega) ?_
            refine VW.goto (pc' := 36) d_Model_crash_63 rfl ?_
            refine VW.nrm ?_
            first | exact yes c51 | exact no (by omega)
          · refine VW.aload_n (pc' := 55) d_Model_crash_54 rfl rfl ?_
            refine VW.iload_n (pc' := 56) d_Model_crash_55 rfl rfl ?_
            refine VW.iconst (pc' := 57) d_Model_crash_56 rfl (by decide) ?_
            refine VW.cV (ci := 11) (T := T11) (N := 94) (pc' := 60) d_Model_crash_57 rfl mv_Model_ends lk_Model_301 rfl (hM.k rfl) rfl rfl rfl (Nat.le_refl _) (Nat.le_refl _) (sp_Model_ends hM (by omega) p0) rfl rfl ?_
            refine VW.iinc (pc' := 63) d_Model_crash_60 rfl rfl rfl (by omega) ?_
            refine VW.goto (pc' := 36) d_Model_crash_63 rfl ?_
            refine VW.nrm ?_
            first | exact yes c51 | exact no (by omega)
    refine VW.aload_n (pc' := 30) d_Model_crash_29 rfl rfl ?_
    refine VW.iload_n (pc' := 31) d_Model_crash_30 rfl rfl ?_
    refine VW.pI (ci := 11) (T := T11) (N := 94) (k := 44) (k' := 44) (ty := ty11) (pc' := 34) d_Model_crash_31 rfl lk_Model_294 in11 tk11 nm11 rfl rfl rfl rfl rfl rfl (hM.k rfl) ?_
    refine VW.iconst (pc' := 35) d_Model_crash_34 rfl (by decide) ?_
    refine VW.istore_n (pc' := 36) d_Model_crash_35 rfl rfl ?_
    refine VW.nrm ?_
    exact loop1 (S 100 19).toNat 0 (by omega)
  have after : ∀ z : Int, z = cd_Model_crash I x → VW m_Model_crash false (rmv 2 49) (ex K P J (r_Model_crash  I x).1 (.inl (some (vI (r_Model_crash  I x).2)))) K P J (up2 I 100 93 z) 0 0 24 [(0, vR (some 100)), (1, vI x)] [vI (bI (0 < z))] := by
    intro z hz
    unfold r_Model_crash
    rw [← hz]
    have q : ¬ 0 < z → (z = 0 ∧ ((bI (I 100 45 ≤ x ∧ x ≤ I 100 44) ≠ 0))) := by
      intro h0
      have hz' := hz
      unfold cd_Model_crash at hz'
      (repeat' split at hz') <;> first | (exfalso; omega) | (refine ⟨by omega, ?_⟩; first | trivial | omega)
    refine VW.if_eq (tgt := 29) (pc' := 27) d_Model_crash_24 rfl rfl (fun c24 => ?_) (fun c24 => ?_)
    · try have e24 := bIe c24
      refine VW.nrm ?_
      rw [callR_0 e24]
      have qq := q e24
      have hz2 := hz.symm.trans qq.1
      rw [qq.1]
      exact rest _ rfl hz2 qq.2
    · try have e24 := bIn c24
      refine VW.iconst (pc' := 28) d_Model_crash_27 rfl (by decide) ?_
      exact VW.iret d_Model_crash_28 rfl rfl (Nat.zero_le _) (Nat.zero_le _) (ex_r (callR_1 e24))
  refine VW.aload_n (pc' := 1) d_Model_crash_0 rfl rfl ?_
  refine VW.iload_n (pc' := 2) d_Model_crash_1 rfl rfl ?_
  refine VW.aload_n (pc' := 3) d_Model_crash_2 rfl rfl ?_
  refine VW.gI (ci := 11) (T := T11) (N := 94) (k := 45) (k' := 45) (pc' := 6) d_Model_crash_3 rfl lk_Model_394 in11 rfl rfl rfl rfl (hM.k rfl) (by first | assumption | (simp [up2] <;> rfl) | rfl) ?_
  refine VW.aload_n (pc' := 7) d_Model_crash_6 rfl rfl ?_
  refine VW.gI (ci := 11) (T := T11) (N := 94) (k := 44) (k' := 44) (pc' := 10) d_Model_crash_7 rfl lk_Model_294 in11 rfl rfl rfl rfl (hM.k rfl) (by first | assumption | (simp [up2] <;> rfl) | rfl) ?_
  refine VW.cS (pc' := 13) d_Model_crash_10 rfl ms_Model_isIn lk_Model_235 rfl rfl rfl (Nat.le_refl _) (Nat.le_refl _) (sp_Model_isIn) rfl rfl ?_
  refine VW.if_eq (tgt := 20) (pc' := 16) d_Model_crash_13 rfl rfl (fun c13 => ?_) (fun c13 => ?_)
  · try have e13 := bIe c13
    refine VW.iconst (pc' := 21) d_Model_crash_20 rfl (by decide) ?_
    refine VW.cV (ci := 11) (T := T11) (N := 94) (pc' := 24) d_Model_crash_21 rfl mv_Model_fails lk_Model_254 rfl (hM.k rfl) rfl rfl rfl (Nat.le_refl _) (Nat.le_refl _) (sp_Model_fails hM) rfl rfl ?_
    refine VW.pick [0, 1] ?_
    exact after _ (by unfold cd_Model_crash; (repeat' split) <;> first | rfl | (exfalso; omega))
  · try have e13 := bIn c13
    refine VW.iconst (pc' := 17) d_Model_crash_16 rfl (by decide) ?_
    refine VW.goto (pc' := 21) d_Model_crash_17 rfl ?_
    refine VW.cV (ci := 11) (T := T11) (N := 94) (pc' := 24) d_Model_crash_21 rfl mv_Model_fails lk_Model_254 rfl (hM.k rfl) rfl rfl rfl (Nat.le_refl _) (Nat.le_refl _) (sp_Model_fails hM) rfl rfl ?_
    refine VW.pick [0, 1] ?_
    exact after _ (by unfold cd_Model_crash; (repeat' split) <;> first | rfl | (exfalso; omega))
end
