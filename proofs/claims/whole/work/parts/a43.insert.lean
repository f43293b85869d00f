section
variable {K : KT} {P : PT} {J I : IT}
/-- names that a trial changes -/
def nAl (i o : Nat) : Prop := nTx i o ∨ o = 1129 ∨ o = 1096 ∨ (1099 ≤ o ∧ o ≤ 1103)
/-- what a trial leaves -/
def AlP (I : IT) (i l l' m : Nat) (W : Int → Prop) (Y : Int → Int → Prop) (cnt : Int) (ok : Prop) (Rw : IT → Prop) (r : Option AV ⊕ String) (I2 : IT) : Prop := TxN I2 i l' m ∧ (∀ o, ¬ nAl i o → I2 o = I o) ∧ RdD I I2 i l l' m W Y cnt ∧ r = .inl (some (vI (bI ok))) ∧ (ok → Rw I2)
theorem scPass_of {T : IT} {c d p : Nat} {a z : Int} (h1 : T c = I c) (h2 : T d = I d) (h3 : T p = I p) : scPass T c d p a z = scPass I c d p a z := by
  unfold scPass scChk
  rw [h1, h2, h3]
theorem rwF_of {T : IT} {a : Nat} (h : T a = I a) : ∀ t y, rwF T a t y = rwF I a t y ∧ rwFind T a t y = rwFind I a t y := fun t y => by
  unfold rwFind rwF
  rw [h]; exact ⟨rfl, rfl⟩
theorem frC_of {T : IT} {i : Nat} (h8 : T (tX i) 8 = I (tX i) 8) (h3 : T (tX i + 33) = I (tX i + 33)) (h7 : T 1037 = I 1037) : ∀ c v, (frC T i c v ↔ frC I i c v) ∧ ∀ t y, (frY T i c v t y ↔ frY I i c v t y) := fun c v => by
  unfold frC frY
  rw [h8, h7]
  constructor
  · rw [(rwF_of h3 _ _).2]
  · intro t y; exact Iff.rfl
/-- what a column loop needs to know of a state -/
def InE (I0 I : IT) (i : Nat) : Prop := (∀ k, k ≠ 13 → k ≠ 14 → I (tX i) k = I0 (tX i) k) ∧ (I (tX i + 13) = I0 (tX i + 13) ∧ I (tX i + 33) = I0 (tX i + 33)) ∧ ∀ o, ¬ nTx i o → I o = I0 o
theorem InE.tr {I0 I1 : IT} {i l l' m : Nat} {W : Int → Prop} {Y : Int → Int → Prop} {c : Int} {K1 : KT} {P1 : PT} (h : InE I0 I i) (f : Fr (nTx i) K P I K1 P1 I1) (d : RdD I I1 i l l' m W Y c) : InE I0 I1 i := ⟨fun k a b => (d.1 k a b).trans (h.1 k a b), ⟨d.2.2.1.1.trans h.2.1.1, d.2.2.1.2.1.trans h.2.1.2⟩, fun o ho => (f o ho).2.2.trans (h.2.2 o ho)⟩
theorem SchB.in {I0 : IT} {i : Nat} (hB : SchB I0) (h : InE I0 I i) : SchB I := hB.of (h.2.2 _ (nTx_hi (by decide))) (h.2.2 _ (nTx_hi (by decide))) (h.2.2 _ (nTx_hi (by decide))) (h.2.2 _ (nTx_hi (by decide))) (h.2.2 _ (nTx_hi (by decide))) (h.2.2 _ (nTx_hi (by decide)))
end
theorem ins_loop {I0 J : IT} {i m : Nat} {n w : Int} (hw : w = I0 1034 (I0 (tX i) 8)) (hw4 : 0 ≤ w ∧ w ≤ 4) (hB : SchB I0) (ht : 0 ≤ I0 (tX i) 8 ∧ I0 (tX i) 8 < 6) :
    ∀ (w2 : Nat) (c f : Int) (l : Nat) (K : KT) (P : PT) (I : IT), c + w2 = w → 1 ≤ c → (f = 0 ∨ f = 1) → ClW K P → TxV K P i l m → TxN I i l m → InE I0 I i → I (tX i) 14 + w2 < 100000 →
    ∃ (l' ce nn : Nat) (K' : KT) (P' : PT) (I' : IT), (TxV K' P' i l' m ∧ TxN I' i l' m ∧ InE I0 I' i ∧ ClW K' P') ∧ Fr (nTx i) K P I K' P' I' ∧ (ce + 2 * l = 2 * l' ∧ nn + ps l = ps l') ∧ RdD I I' i l l' m (fun _ => False) (fun t y => ∃ j, c ≤ j ∧ j < w ∧ frY I0 i j (I0 (tX i + 13) j) t y) w2 ∧
      ∀ (C N cs ns : Nat) (Q : PQ), cs + ce ≤ C → ns + nn ≤ N → (VW m_Trial_allowsInsert false ({ frames := 6, cells := C, slots := N, locals := 240 } : Room) Q K' P' J I' (cs + ce) (ns + nn) 65 [(0, vR (some 1096)), (1, vR (some (tX i))), (2, vI (I0 (tX i) 8)), (3, vI (bI (f = 1 ∧ ∀ j, c ≤ j → j < w → frC I0 i j (I0 (tX i + 13) j))))] []) → VW m_Trial_allowsInsert false ({ frames := 6, cells := C, slots := N, locals := 240 } : Room) Q K P J I cs ns 28 [(0, vR (some 1096)), (1, vR (some (tX i))), (2, vI (I0 (tX i) 8)), (3, vI f), (4, vI c)] [] := by
  intro w2
  induction w2 with
  | zero =>
    intro c f l K P I hc c1 hf hC hV hN hE hb
    have ec : c = w := by omega
    refine ⟨l, 0, 0, K, P, I, ⟨hV, hN, hE, hC⟩, Fr.rf, ⟨by omega, by omega⟩, RdD.rf.iff (fun _ _ _ => Iff.rfl) (fun t y => ⟨False.elim, fun ⟨j, j0, j1, _⟩ => by omega⟩) (by omega), fun C N cs ns Q hC' hN' hk => ?_⟩
    have ef : bI (f = 1 ∧ ∀ j, c ≤ j → j < w → frC I0 i j (I0 (tX i + 13) j)) = f := by
      rcases hf with hf | hf
      · rw [hf]; exact bI0 (fun z => by have := z.1; omega)
      · rw [hf]; exact bI1 ⟨rfl, fun j j0 j1 => by omega⟩
    rw [ef] at hk
    have wv : I 1034 (I0 (tX i) 8) = w := by rw [hE.2.2 1034 (nTx_hi (by decide))]; exact hw.symm
    refine VW.iload (pc' := 30) d_Trial_allowsInsert_28 rfl rfl ?_
    refine VW.aload_n (pc' := 31) d_Trial_allowsInsert_30 rfl rfl ?_
    refine VW.gP (ci := 9) (T := T9) (N := 8) (k := 0) (k' := 0) (pc' := 34) d_Trial_allowsInsert_31 rfl lk_Trial_35 in9 rfl rfl rfl rfl (by first | exact hC.k 13 rfl | exact hC.k 14 rfl | exact hC.k 15 rfl | exact hC.k 16 rfl | exact hC.k 17 rfl | exact hC.k 18 rfl | exact hC.k 19 rfl | exact hC.k 20 rfl | exact hC.k 2 rfl | exact hC.k 3 rfl | exact hC.k 6 rfl | exact hC.k 7 rfl | exact hV.k | exact hV.rows.1 | exact hV.pw.2) (by first | exact hC.p 22 rfl | exact hC.p 23 rfl | exact hC.p 24 rfl | exact hC.p 25 rfl | exact hC.p 26 rfl | exact hC.p 27 rfl | exact hC.p 28 rfl | exact hC.p 29 rfl | exact hC.p 9 rfl | exact hC.p 12 rfl | exact hC.p 13 rfl | exact wv | exact hV.pr | exact hV.pw.1 | rfl) ?_
    refine VW.gP (ci := 7) (T := T7) (N := 8) (k := 1) (k' := 1) (pc' := 37) d_Trial_allowsInsert_34 rfl lk_Trial_76 in7 rfl rfl rfl rfl (by first | exact hC.k 13 rfl | exact hC.k 14 rfl | exact hC.k 15 rfl | exact hC.k 16 rfl | exact hC.k 17 rfl | exact hC.k 18 rfl | exact hC.k 19 rfl | exact hC.k 20 rfl | exact hC.k 2 rfl | exact hC.k 3 rfl | exact hC.k 6 rfl | exact hC.k 7 rfl | exact hV.k | exact hV.rows.1 | exact hV.pw.2) (by first | exact hC.p 22 rfl | exact hC.p 23 rfl | exact hC.p 24 rfl | exact hC.p 25 rfl | exact hC.p 26 rfl | exact hC.p 27 rfl | exact hC.p 28 rfl | exact hC.p 29 rfl | exact hC.p 9 rfl | exact hC.p 12 rfl | exact hC.p 13 rfl | exact wv | exact hV.pr | exact hV.pw.1 | rfl) ?_
    refine VW.iload_n (pc' := 38) d_Trial_allowsInsert_37 rfl rfl ?_
    refine VW.ild (pc' := 39) d_Trial_allowsInsert_38 rfl (by first | exact hC.k 13 rfl | exact hC.k 14 rfl | exact hC.k 15 rfl | exact hC.k 16 rfl | exact hC.k 17 rfl | exact hC.k 18 rfl | exact hC.k 19 rfl | exact hC.k 20 rfl | exact hC.k 2 rfl | exact hC.k 3 rfl | exact hC.k 6 rfl | exact hC.k 7 rfl | exact hV.k | exact hV.rows.1 | exact hV.pw.2) (by omega) (by omega) (by first | exact hC.p 22 rfl | exact hC.p 23 rfl | exact hC.p 24 rfl | exact hC.p 25 rfl | exact hC.p 26 rfl | exact hC.p 27 rfl | exact hC.p 28 rfl | exact hC.p 29 rfl | exact hC.p 9 rfl | exact hC.p 12 rfl | exact hC.p 13 rfl | exact wv | exact hV.pr | exact hV.pw.1 | rfl) ?_
    refine VW.icmp_ge (tgt := 65) (pc' := 42) d_Trial_allowsInsert_39 rfl rfl (fun c39 => ?_) (fun c39 => ?_)
    case refine_2 => exact absurd c39 (by omega)
    refine VW.pick [0, 1, 2, 3] ?_
    exact hk
  | succ w2 ih =>
    intro c f l K P I hc c1 hf hC hV hN hE hb
    have h8 : I (tX i) 8 = I0 (tX i) 8 := hE.1 8 (by decide) (by decide)
    have h13 := hE.2.1.1
    obtain ⟨l1, ce1, n1, K1, P1, I1, ⟨v1, v2⟩, f1, r1, d1, sp⟩ := finds_ex (J := J) (c := c) (v := I0 (tX i + 13) c) hC hV hN (hB.in hE) (by rw [h8]; exact ht) ⟨by omega, by omega⟩ (by omega)
    have fo := frC_of h8 hE.2.1.2 (hE.2.2 1037 (nTx_hi (by decide))) c (I0 (tX i + 13) c)
    have E1 := hE.tr f1 d1
    have C1 := hC.tx f1
    rw [propext fo.1] at sp
    have g := fun (f2 : Int) (hf2 : f2 = 0 ∨ f2 = 1) => ih (c + 1) f2 l1 K1 P1 I1 (by omega) (by omega) hf2 C1 v1 v2 E1 (by have := d1.2.1; omega)
    obtain ⟨l2, ce2, n2, K2, P2, I2, q1, q2, q3, q4, q5⟩ := g (bI (f = 1 ∧ frC I0 i c (I0 (tX i + 13) c))) (bI_01 _)
    refine ⟨l2, ce1 + ce2, n1 + n2, K2, P2, I2, q1, f1.tr q2, ⟨by omega, by omega⟩, (d1.tr q4).iff (fun _ _ _ => ⟨fun z => z.elim id id, False.elim⟩) (fun t y => ?_) (by omega), fun C N cs ns Q hC' hN' hk => ?_⟩
    · constructor
      · rintro (z | ⟨j, j0, j1, j2⟩)
        · exact ⟨c, Int.le_refl _, by omega, (fo.2 t y).mp z⟩
        · exact ⟨j, by omega, j1, j2⟩
      · rintro ⟨j, j0, j1, j2⟩
        by_cases e : j = c
        · exact Or.inl ((fo.2 t y).mpr (by rw [← e]; exact j2))
        · exact Or.inr ⟨j, by omega, j1, j2⟩
    · have ef : (bI (f = 1 ∧ frC I0 i c (I0 (tX i + 13) c)) = 1 ∧ ∀ j, c + 1 ≤ j → j < w → frC I0 i j (I0 (tX i + 13) j)) = (f = 1 ∧ ∀ j, c ≤ j → j < w → frC I0 i j (I0 (tX i + 13) j)) := propext ⟨fun z => by
          have y := bIn (p := f = 1 ∧ frC I0 i c (I0 (tX i + 13) c)) (by omega)
          refine ⟨y.1, fun j j0 j1 => ?_⟩
          by_cases e : j = c
          · rw [e]; exact y.2
          · exact z.2 j (by omega) j1, fun z => ⟨bI1 ⟨z.1, z.2 c (Int.le_refl _) (by omega)⟩, fun j j0 j1 => z.2 j (by omega) j1⟩⟩
      have n9 := q5 C N (cs + ce1) (ns + n1) Q (by omega) (by omega) (by rw [ef, Nat.add_assoc, Nat.add_assoc]; exact hk)
      have wv : I 1034 (I0 (tX i) 8) = w := by rw [hE.2.2 1034 (nTx_hi (by decide))]; exact hw.symm
      have av : I (tX i + 13) c = I0 (tX i + 13) c := by rw [h13]
      have ea : ∀ b : Int, (b = 0 ∨ b = 1) → Int32.ofInt f &&& Int32.ofInt b = Int32.ofInt (if f = 1 ∧ b = 1 then 1 else 0) := fun b hb => by
        rcases hf with hf | hf <;> rcases hb with hb | hb <;> subst hf hb <;> rfl
      have eb : (if f = 1 ∧ bI (frC I0 i c (I0 (tX i + 13) c)) = 1 then (1 : Int) else 0) = bI (f = 1 ∧ frC I0 i c (I0 (tX i + 13) c)) := by
        by_cases h : f = 1 ∧ frC I0 i c (I0 (tX i + 13) c)
        · rw [bI1 h, if_pos ⟨h.1, bI1 h.2⟩]
        · rw [bI0 h, if_neg (fun z => h ⟨z.1, bIn (by omega)⟩)]
      have bb := bI_01 (frC I0 i c (I0 (tX i + 13) c))
      clear ih g q5
      refine VW.iload (pc' := 30) d_Trial_allowsInsert_28 rfl rfl ?_
      refine VW.aload_n (pc' := 31) d_Trial_allowsInsert_30 rfl rfl ?_
      refine VW.gP (ci := 9) (T := T9) (N := 8) (k := 0) (k' := 0) (pc' := 34) d_Trial_allowsInsert_31 rfl lk_Trial_35 in9 rfl rfl rfl rfl (by first | exact hC.k 13 rfl | exact hC.k 14 rfl | exact hC.k 15 rfl | exact hC.k 16 rfl | exact hC.k 17 rfl | exact hC.k 18 rfl | exact hC.k 19 rfl | exact hC.k 20 rfl | exact hC.k 2 rfl | exact hC.k 3 rfl | exact hC.k 6 rfl | exact hC.k 7 rfl | exact hV.k | exact hV.rows.1 | exact hV.pw.2) (by first | exact hC.p 22 rfl | exact hC.p 23 rfl | exact hC.p 24 rfl | exact hC.p 25 rfl | exact hC.p 26 rfl | exact hC.p 27 rfl | exact hC.p 28 rfl | exact hC.p 29 rfl | exact hC.p 9 rfl | exact hC.p 12 rfl | exact hC.p 13 rfl | exact wv | exact av | exact hV.pr | exact hV.pw.1 | rfl) ?_
      refine VW.gP (ci := 7) (T := T7) (N := 8) (k := 1) (k' := 1) (pc' := 37) d_Trial_allowsInsert_34 rfl lk_Trial_76 in7 rfl rfl rfl rfl (by first | exact hC.k 13 rfl | exact hC.k 14 rfl | exact hC.k 15 rfl | exact hC.k 16 rfl | exact hC.k 17 rfl | exact hC.k 18 rfl | exact hC.k 19 rfl | exact hC.k 20 rfl | exact hC.k 2 rfl | exact hC.k 3 rfl | exact hC.k 6 rfl | exact hC.k 7 rfl | exact hV.k | exact hV.rows.1 | exact hV.pw.2) (by first | exact hC.p 22 rfl | exact hC.p 23 rfl | exact hC.p 24 rfl | exact hC.p 25 rfl | exact hC.p 26 rfl | exact hC.p 27 rfl | exact hC.p 28 rfl | exact hC.p 29 rfl | exact hC.p 9 rfl | exact hC.p 12 rfl | exact hC.p 13 rfl | exact wv | exact av | exact hV.pr | exact hV.pw.1 | rfl) ?_
      refine VW.iload_n (pc' := 38) d_Trial_allowsInsert_37 rfl rfl ?_
      refine VW.ild (pc' := 39) d_Trial_allowsInsert_38 rfl (by first | exact hC.k 13 rfl | exact hC.k 14 rfl | exact hC.k 15 rfl | exact hC.k 16 rfl | exact hC.k 17 rfl | exact hC.k 18 rfl | exact hC.k 19 rfl | exact hC.k 20 rfl | exact hC.k 2 rfl | exact hC.k 3 rfl | exact hC.k 6 rfl | exact hC.k 7 rfl | exact hV.k | exact hV.rows.1 | exact hV.pw.2) (by omega) (by omega) (by first | exact hC.p 22 rfl | exact hC.p 23 rfl | exact hC.p 24 rfl | exact hC.p 25 rfl | exact hC.p 26 rfl | exact hC.p 27 rfl | exact hC.p 28 rfl | exact hC.p 29 rfl | exact hC.p 9 rfl | exact hC.p 12 rfl | exact hC.p 13 rfl | exact wv | exact av | exact hV.pr | exact hV.pw.1 | rfl) ?_
      refine VW.icmp_ge (tgt := 65) (pc' := 42) d_Trial_allowsInsert_39 rfl rfl (fun c39 => ?_) (fun c39 => ?_)
      case refine_1 => exact absurd c39 (by omega)
      refine VW.iload_n (pc' := 43) d_Trial_allowsInsert_42 rfl rfl ?_
      refine VW.aload_n (pc' := 44) d_Trial_allowsInsert_43 rfl rfl ?_
      refine VW.aload_n (pc' := 45) d_Trial_allowsInsert_44 rfl rfl ?_
      refine VW.iload (pc' := 47) d_Trial_allowsInsert_45 rfl rfl ?_
      refine VW.aload_n (pc' := 48) d_Trial_allowsInsert_47 rfl rfl ?_
      refine VW.gP (ci := 8) (T := T8) (N := 19) (k := 12) (k' := 12) (pc' := 51) d_Trial_allowsInsert_48 rfl lk_Trial_81 in8 rfl rfl rfl rfl (by first | exact hC.k 13 rfl | exact hC.k 14 rfl | exact hC.k 15 rfl | exact hC.k 16 rfl | exact hC.k 17 rfl | exact hC.k 18 rfl | exact hC.k 19 rfl | exact hC.k 20 rfl | exact hC.k 2 rfl | exact hC.k 3 rfl | exact hC.k 6 rfl | exact hC.k 7 rfl | exact hV.k | exact hV.rows.1 | exact hV.pw.2) (by first | exact hC.p 22 rfl | exact hC.p 23 rfl | exact hC.p 24 rfl | exact hC.p 25 rfl | exact hC.p 26 rfl | exact hC.p 27 rfl | exact hC.p 28 rfl | exact hC.p 29 rfl | exact hC.p 9 rfl | exact hC.p 12 rfl | exact hC.p 13 rfl | exact wv | exact av | exact hV.pr | exact hV.pw.1 | rfl) ?_
      refine VW.iload (pc' := 53) d_Trial_allowsInsert_51 rfl rfl ?_
      refine VW.ild (pc' := 54) d_Trial_allowsInsert_53 rfl (by first | exact hC.k 13 rfl | exact hC.k 14 rfl | exact hC.k 15 rfl | exact hC.k 16 rfl | exact hC.k 17 rfl | exact hC.k 18 rfl | exact hC.k 19 rfl | exact hC.k 20 rfl | exact hC.k 2 rfl | exact hC.k 3 rfl | exact hC.k 6 rfl | exact hC.k 7 rfl | exact hV.k | exact hV.rows.1 | exact hV.pw.2) (by omega) (by omega) (by first | exact hC.p 22 rfl | exact hC.p 23 rfl | exact hC.p 24 rfl | exact hC.p 25 rfl | exact hC.p 26 rfl | exact hC.p 27 rfl | exact hC.p 28 rfl | exact hC.p 29 rfl | exact hC.p 9 rfl | exact hC.p 12 rfl | exact hC.p 13 rfl | exact wv | exact av | exact hV.pr | exact hV.pw.1 | rfl) ?_
      refine VW.cV (ci := 9) (T := T9) (N := 8) (pc' := 57) d_Trial_allowsInsert_54 rfl mv_Trial_findsReferred lk_Trial_84 rfl (by first | exact hC.k 13 rfl | exact hC.k 14 rfl | exact hC.k 15 rfl | exact hC.k 16 rfl | exact hC.k 17 rfl | exact hC.k 18 rfl | exact hC.k 19 rfl | exact hC.k 20 rfl | exact hC.k 2 rfl | exact hC.k 3 rfl | exact hC.k 6 rfl | exact hC.k 7 rfl | exact hV.k | exact hV.rows.1 | exact hV.pw.2) rfl rfl rfl (by show cs + ce1 ≤ C; omega) (by show ns + n1 ≤ N; omega) (sp) rfl rfl ?_
      refine VW.iand (pc' := 58) (z := (if f = 1 ∧ bI (frC I0 i c (I0 (tX i + 13) c)) = 1 then 1 else 0)) d_Trial_allowsInsert_57 rfl (by split <;> exact ⟨by decide, by decide⟩) (ea _ bb) ?_
      rw [eb]
      refine VW.istore_n (pc' := 59) d_Trial_allowsInsert_58 rfl rfl ?_
      refine VW.iinc (pc' := 62) d_Trial_allowsInsert_59 rfl rfl rfl (by omega) ?_
      refine VW.goto (pc' := 28) d_Trial_allowsInsert_62 rfl ?_
      refine VW.pick [0, 1, 2, 3, 4] ?_
      exact n9
