/-! a trial in class and reference, of any kind -/
section
variable {I S I2 : IT} {i l l' m : Nat} {s : Int} {r : Option AV ⊕ String}
/-- the keys that a try reads -/
def YS (S : IT) (i : Nat) (t y : Int) : Prop := (S 227 i = 0 ∧ mInY S i (S 228 i) (S 201 (S 228 i) - 1).toNat t y) ∨ (S 227 i ≠ 0 ∧ t = S 228 i ∧ y = S 229 i) ∨ (S 227 i = 1 ∧ S 206 (4 * S 228 i + S 230 i) ≠ -1 ∧ S 231 i ≠ -2147483648 ∧ t = S 206 (4 * S 228 i + S 230 i) ∧ y = S 231 i)
/-- what the write that is tried is -/
def PdE (I S : IT) (i : Nat) : Prop := (I (tX i) 7 = S 227 i ∧ I (tX i) 8 = S 228 i) ∧ (0 ≤ S 228 i ∧ S 228 i < S 100 0) ∧ (S 227 i = 0 → InH I S i) ∧ (S 227 i ≠ 0 → I (tX i) 9 = S 229 i) ∧ (S 227 i = 1 → UpH I S i)
def TriH (I S : IT) (i l : Nat) (s : Int) : Prop := (RSch I S ∧ SSch S) ∧ (RowEq I (tX i + 33) S s ∧ RWc I (tX i + 33)) ∧ (RWm S s ∧ SChk S s) ∧ (S 223 i = s ∧ I (tX i) 1 = S 220 i) ∧ PdE I S i ∧ RdE I S i l ∧ (0 ≤ S 233 i ∧ S 233 i ≤ 2040) ∧ ∀ t, S 201 t ≤ 4
def lgFr (W W2 : IT) : Prop := ∀ o k, (o < 246 ∨ 249 < o) → (o ≠ 100 ∨ k ≠ 44) → W2 o k = W o k
/-- what an allowed write leaves -/
def OKW (S : IT) (i : Nat) (s : Int) (I2 W : IT) : Prop := ∃ n : Nat, (W 100 41 = n ∧ n ≤ 48 ∧ I2 1096 7 = n ∧ trL I2 n = wtL W n) ∧ (∀ x ∈ wtL W n, (0 ≤ x.1 ∧ x.1 < 6) ∧ -1000 ≤ x.2 ∧ x.2 ≤ 1000) ∧ RWc I2 1129 ∧
  (∀ W2, lgFr W W2 → RowEq I2 1129 (mDoesS W2 i s (S 228 i)) s ∧ RWm (mDoesS W2 i s (S 228 i)) s ∧ (∀ t ρ, 0 ≤ t → t < 6 → mIn (mDoesS W2 i s (S 228 i)) s t ρ → rowOk S t ρ) ∧ SlF S (mDoesS W2 i s (S 228 i)) s ∧ (∀ o k, o ≠ 214 → o ≠ 215 → mDoesS W2 i s (S 228 i) o k = W2 o k) ∧ ∀ t ρ, 0 ≤ t → t < 6 → (t, ρ.1) ∉ wtL W n → (mIn (mDoesS W2 i s (S 228 i)) s t ρ ↔ mIn S s t ρ)) ∧
  (S 227 i = 0 → W 214 (6 * s + S 228 i) < 8) ∧ (S 227 i = 1 → mfind W s (S 228 i) (S 229 i) ≠ -1 ∧ 0 ≤ S 230 i ∧ S 230 i < 4) ∧ (S 227 i ≠ 0 → S 227 i ≠ 1 → mGoneIn W s 384)
def TriR (S : IT) (i l' : Nat) (s : Int) (r : Option AV ⊕ String) (I2 : IT) : Prop := r = .inl (some (vI (bI (mWantQ (up2 S 100 41 0) i)))) ∧ RdE I2 (mWantI (up2 S 100 41 0) i) i l' ∧ (∃ Wt, MrD S (mWantI (up2 S 100 41 0) i) i Wt (YS S i) 4) ∧ (mWantQ (up2 S 100 41 0) i → OKW S i s I2 (mWantI (up2 S 100 41 0) i))
theorem TriH.A (h : TriH I S i l s) : TrH (alI I i) S i s ∧ (∀ z, 0 ≤ z → z < 192 → alI I i 1129 z = alI I i (tX i + 33) z) ∧ PdE (alI I i) S i ∧ RdE (alI I i) S i l := by
  obtain ⟨⟨hR, hS⟩, ⟨hE, hW⟩, ⟨hm, hk⟩, ⟨hs, h1⟩, hp, hrd, hn, h4⟩ := h
  have x0 : 2000 ≤ tX i := by unfold tX; omega
  have ao : ∀ o, o ≠ 1129 → o ≠ 1096 → alI I i o = I o := fun o a b => alI_o a b
  have aT : ∀ j, alI I i (tX i + j) = I (tX i + j) := fun j => ao _ (by omega) (by omega)
  have aX : alI I i (tX i) = I (tX i) := ao _ (by omega) (by omega)
  have e33 := aT 33
  have hR' : RSch (alI I i) S := hR.of (fun o ho => ao o (by omega) (by omega))
  have ec : ∀ z, 0 ≤ z → z < 192 → alI I i 1129 z = I (tX i + 33) z := alI_c
  refine ⟨⟨⟨hR', hS⟩, ⟨hE.of ec, hW.of ec⟩, ⟨hE.of (fun z _ _ => by rw [e33]), hW.of (fun z _ _ => by rw [e33])⟩, ⟨hm, hk⟩, ⟨by rw [aX]; exact h1, by rw [aX]; exact hp.1.1, by rw [aX]; exact hp.1.2⟩, hp.2.1⟩, fun z z0 z1 => by rw [ec z z0 z1, e33], ?_, ?_⟩
  · unfold PdE InH UpH at *
    rw [aX, aT 13]
    exact hp
  · unfold RdE whOf rdOf txRd txWh at *
    rw [aX, show tX i + 40 + l = tX i + (40 + l) by omega, show tX i + 60 + l = tX i + (60 + l) by omega, aT, aT] at *
    exact hrd
theorem s41 {S : IT} {o : Nat} (h : o ≠ 100) : up2 S 100 41 0 o = S o := funext (fun k => up2_o _ _ _ _ h)
theorem mdoes_ins {W2 W : IT} (hf : lgFr W W2) (fW : ∀ o k, (o < 233 ∨ 243 < o) → (o ≠ 100 ∨ k ≠ 41) → W o k = S o k) (h0 : S 227 i = 0) : InsE S i s (mDoesS W2 i s (S 228 i)) ∧ ∀ o k, o ≠ 214 → o ≠ 215 → mDoesS W2 i s (S 228 i) o k = W2 o k := by
  have f : ∀ o k, (o < 233 ∨ 249 < o) → (o ≠ 100) → W2 o k = S o k := fun o k a b => (hf o k (by omega) (Or.inl b)).trans (fW o k (by omega) (Or.inl b))
  have e : mDoesS W2 i s (S 228 i) = cpyI (up2 W2 214 (6 * s + S 228 i) (W2 214 (6 * s + S 228 i) + 1)) 232 (4 * (i : Int)) 215 (mrow s (S 228 i) (W2 214 (6 * s + S 228 i))) 4 := by unfold mDoesS; rw [if_pos ((f 227 i (by omega) (by decide)).trans h0)]
  rw [e, f 214 _ (by omega) (by decide)]
  refine ⟨⟨fun k => ?_, fun z => ?_⟩, fun o k h1 h2 => ?_⟩
  · rw [show cpyI (up2 W2 214 (6 * s + S 228 i) (S 214 (6 * s + S 228 i) + 1)) 232 (4 * (i : Int)) 215 (mrow s (S 228 i) (S 214 (6 * s + S 228 i))) 4 214 k = up2 W2 214 (6 * s + S 228 i) (S 214 (6 * s + S 228 i) + 1) 214 k from if_neg (fun q => absurd q.1 (by decide))]
    by_cases q : k = 6 * s + S 228 i
    · rw [if_pos q, q, up2_eq]
    · rw [if_neg q, up2_k _ _ _ _ q, f 214 _ (by omega) (by decide)]
  · unfold cpyI
    by_cases q : mrow s (S 228 i) (S 214 (6 * s + S 228 i)) ≤ z ∧ z < mrow s (S 228 i) (S 214 (6 * s + S 228 i)) + 4
    · rw [if_pos ⟨rfl, q⟩, if_pos q, up2_o _ _ _ _ (by decide), f 232 _ (by omega) (by decide)]
    · rw [if_neg (fun w => q w.2), if_neg q, up2_o _ _ _ _ (by decide), f 215 _ (by omega) (by decide)]
  · exact (if_neg (fun q => h2 q.1)).trans (up2_o _ _ _ _ h1)
theorem tri_ins (h : TriH I S i l s) (h0 : S 227 i = 0) (hT : TriP (alI I i) i l l' m r I2) : TriR S i l' s r I2 := by
  obtain ⟨hA, hcp, hpA, hrA⟩ := h.A
  have t6 := hA.t6
  obtain ⟨⟨hR, hS⟩, ⟨hE, hW⟩, ⟨hm, hk⟩, ⟨hs, h1⟩, hp, hrd, hn, h4⟩ := h
  have w4 := hS.2.1 (S 228 i) hp.2.1.1 hp.2.1.2
  have hi := hpA.2.2.1 h0
  obtain ⟨q1, q2, q3, q4, q5⟩ := hT.1 (hpA.1.1.trans h0)
  obtain ⟨eW, eQ⟩ := mWant_i (I := up2 S 100 41 0) (i := (i : Int)) (by rw [s41 (by decide)]; exact h0)
  rw [s41 (by decide), s41 (by decide), s41 (by decide)] at eW eQ
  have e3 : ∀ o k, o ≠ 233 → o ≠ 234 → o ≠ 235 → mInsS (up2 S 100 41 0) i (S 228 i) (S 201 (S 228 i) - 1).toNat o k = up2 S 100 41 0 o k := fun o k a b c => mInsS_fr _ o k a b c
  -- the reads
  have mr : MrD S (mInsS (up2 S 100 41 0) i (S 228 i) (S 201 (S 228 i) - 1).toNat) i (fun _ => False) (mInY S i (S 228 i) (S 201 (S 228 i) - 1).toNat) 4 := by
    have := MrD.ins (S := up2 S 100 41 0) (i := (i : Int)) (t := S 228 i) t6 (fun k => by rw [s41 (by decide)]; exact hS.2.2.2.2.2.2.2.2 k) (S 201 (S 228 i) - 1).toNat (by rw [s41 (by decide)]; omega)
    refine ((this.eq0 (S0 := S) (fun o a b => (s41 (by omega)).symm)).iff (fun _ _ _ => Iff.rfl) (fun t y => ?_) (by omega))
    unfold mInY
    rw [s41 (by decide), s41 (by decide)]
  have fW : ∀ o k, (o < 233 ∨ 243 < o) → (o ≠ 100 ∨ k ≠ 41) → mWantI (up2 S 100 41 0) i o k = S o k := fun o k a b => (mWantI_fr o k a b).trans (by
    by_cases q : o = 100
    · rw [q, up2_k _ _ _ _ (by omega)]
    · rw [s41 q])
  have mrW : MrD S (mWantI (up2 S 100 41 0) i) i (fun _ => False) (YS S i) 4 := by
    refine (mr.eq (fun o a b => ?_)).iff (fun _ _ _ => Iff.rfl) (fun t y => ?_) (Int.le_refl _)
    · rw [eW]; exact funext (fun k => mwants_fr o k (by omega) (by omega) (Or.inl (by omega)))
    · unfold YS
      exact ⟨fun z => Or.inl ⟨h0, z⟩, fun z => z.elim (fun z => z.2) (fun z => z.elim (fun z => absurd h0 z.1) (fun z => by omega))⟩
  have okk := ins_ok (T := mInsS (up2 S 100 41 0) i (S 228 i) (S 201 (S 228 i) - 1).toNat) (A := alI I i) (fun o k a b c d e => (e3 o k a b c).trans (by rw [s41 e])) hA hi hs
  have eQ' : mWantQ (up2 S 100 41 0) i ↔ insOk (alI I i) i := by
    rw [okk]
    exact ⟨fun z => bIn (by rw [← eQ, bI1 z]; decide), fun z => bIn (by rw [eQ, bI1 z]; decide)⟩
  have e41 : mInsS (up2 S 100 41 0) i (S 228 i) (S 201 (S 228 i) - 1).toNat 100 41 = 0 := (e3 100 41 (by decide) (by decide) (by decide)).trans (up2_eq _ _ _ _)
  have eL : wtL (mWantI (up2 S 100 41 0) i) 1 = [(S 228 i, S 232 (4 * (i : Int)))] := by
    rw [eW]
    have := wtL_wants (W := mInsS (up2 S 100 41 0) i (S 228 i) (S 201 (S 228 i) - 1).toNat) (t := S 228 i) (key := S 232 (4 * (i : Int))) (n := 0) e41
    rw [Nat.zero_add] at this
    rw [this]; rfl
  refine ⟨by rw [q4, bIc eQ'], hrA.step q3 mrW (fun _ _ _ => Iff.rfl) (fun t y _ _ => ?_), ⟨_, mrW⟩, fun hQ => ?_⟩
  · rw [ins_y hA hi t y]
    unfold YS
    exact ⟨fun z => Or.inl ⟨h0, z⟩, fun z => z.elim (fun z => z.2) (fun z => z.elim (fun z => absurd h0 z.1) (fun z => by omega))⟩
  · have hok := eQ'.mp hQ
    obtain ⟨r1, r2, r3⟩ := q5 hok
    have e9 : alI I i (tX i) 9 = S 232 (4 * (i : Int)) := hi.1
    rw [hpA.1.2, e9] at r3
    have kv := (hi.2.2 0 (by decide) (by decide))
    rw [Int.add_zero] at kv
    have kn : S 232 (4 * (i : Int)) ≠ -2147483648 := by rw [← e9]; exact hok.1
    have k1 := kv.resolve_left kn
    have n8 : S 214 (6 * s + S 228 i) < 8 := by
      have := hok.2.1
      rw [hpA.1.2] at this
      exact (free_eq hA.2.1.1 hA.2.1.2 hm t6).mp this
    refine ⟨1, ⟨?_, by decide, r2, by rw [r3, eL]⟩, fun x hx => ?_, ?_, fun W2 hf => ?_, fun _ => by rw [fW 214 _ (by omega) (Or.inl (by decide))]; exact n8, fun z => by omega, fun z => absurd h0 z⟩
    · rw [eW, mwants_41, e41]; rfl
    · rw [eL] at hx
      rw [List.mem_singleton.mp hx]
      exact ⟨t6, k1⟩
    · obtain ⟨z1, z2⟩ := mdoes_ins (W2 := mWantI (up2 S 100 41 0) i) (s := s) (i := i) (S := S) (fun _ _ _ _ => rfl) fW h0
      exact (ins_rw hA hi hok ⟨r1, r2, by rw [hpA.1.2, e9]; exact r3⟩ z1 (fun o k ho => (z2 o k (by omega) (by omega)).trans (fW o k (by omega) (Or.inl (by omega))))).2.1
    · obtain ⟨z1, z2⟩ := mdoes_ins (W2 := W2) (s := s) (i := i) (S := S) hf fW h0
      obtain ⟨y1, y2, y3, y4⟩ := ins_rw hA hi hok ⟨r1, r2, by rw [hpA.1.2, e9]; exact r3⟩ z1 (fun o k ho => (z2 o k (by omega) (by omega)).trans ((hf o k (by omega) (Or.inl (by omega))).trans (fW o k (by omega) (Or.inl (by omega)))))
      have m1 := mIn_put (S := S) (S' := mDoesS W2 i s (S 228 i)) (f := fun c => S 232 (4 * (i : Int) + c)) (fun t a b => ⟨(hm.1 t a b).1, by have := (hm.1 t a b).2; omega⟩) t6 z1.1 z1.2
      refine ⟨y1, y3, fun t ρ t0 t1 hρ => ?_, ⟨fun k hk => by rw [z1.1, if_neg (by omega)], fun z hz => by rw [z1.2, if_neg (by have := (hm.1 _ t6.1 t6.2); unfold mrow; omega)]⟩, z2, fun t ρ t0 t1 hn => ?_⟩
      · have := y4 t ρ t0 t1 hρ
        rw [rowOk_of (S := S) (fun k => (z2 202 k (by decide) (by decide)).trans ((hf 202 k (by omega) (Or.inl (by decide))).trans (fW 202 k (by omega) (Or.inl (by decide))))) (fun k => (z2 203 k (by decide) (by decide)).trans ((hf 203 k (by omega) (Or.inl (by decide))).trans (fW 203 k (by omega) (Or.inl (by decide))))) (fun k => (z2 204 k (by decide) (by decide)).trans ((hf 204 k (by omega) (Or.inl (by decide))).trans (fW 204 k (by omega) (Or.inl (by decide))))) (fun k => (z2 205 k (by decide) (by decide)).trans ((hf 205 k (by omega) (Or.inl (by decide))).trans (fW 205 k (by omega) (Or.inl (by decide)))))] at this
        exact this
      · rw [m1 t ρ t0 t1]
        refine ⟨fun z => z.elim id (fun ⟨e1, e2⟩ => absurd ?_ hn), Or.inl⟩
        rw [eL, e1, e2]
        show (S 228 i, S 232 (4 * (i : Int) + 0)) ∈ _
        rw [Int.add_zero]
        exact List.mem_singleton.mpr rfl
theorem mdoes_upd {W2 W : IT} (hf : lgFr W W2) (fW : ∀ o k, (o < 233 ∨ 243 < o) → (o ≠ 100 ∨ k ≠ 41) → W o k = S o k) (h0 : S 227 i = 1) : UpdE S i s (mDoesS W2 i s (S 228 i)) ∧ ∀ o k, o ≠ 214 → o ≠ 215 → mDoesS W2 i s (S 228 i) o k = W2 o k := by
  have f : ∀ o, (o < 233 ∨ 249 < o) → (o ≠ 100) → W2 o = S o := fun o a b => funext (fun k => (hf o k (by omega) (Or.inl b)).trans (fW o k (by omega) (Or.inl b)))
  have e : mDoesS W2 i s (S 228 i) = up2 W2 215 (mrow s (S 228 i) (mfind S s (S 228 i) (S 229 i)) + S 230 i) (S 231 i) := by
    unfold mDoesS mfind
    rw [f 227 (by omega) (by decide), h0, if_neg (by decide), if_pos rfl, f 214 (by omega) (by decide), f 215 (by omega) (by decide), f 229 (by omega) (by decide), f 230 (by omega) (by decide), f 231 (by omega) (by decide)]
  rw [e]
  refine ⟨⟨fun k => ?_, fun z => ?_⟩, fun o k h1 h2 => up2_o _ _ _ _ h2⟩
  · rw [up2_o _ _ _ _ (by decide), f 214 (by omega) (by decide)]
  · by_cases q : z = mrow s (S 228 i) (mfind S s (S 228 i) (S 229 i)) + S 230 i
    · rw [if_pos q, q, up2_eq]
    · rw [if_neg q, up2_k _ _ _ _ q, f 215 (by omega) (by decide)]
end
