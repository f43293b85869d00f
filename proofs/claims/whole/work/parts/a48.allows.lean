section
variable {K : KT} {P : PT} {J I : IT}
theorem AlP.pre {I1 I2 : IT} {i l l1 l' m : Nat} {W0 W : Int → Prop} {Y0 Y : Int → Int → Prop} {c0 c : Int} {ok : Prop} {Rw : IT → Prop} {r : Option AV ⊕ String} (hd : RdD I I1 i l l1 m W0 Y0 c0) (hf : ∀ o, ¬ nTx i o → I1 o = I o) (h : AlP I1 i l1 l' m W Y c ok Rw r I2) : AlP I i l l' m (fun t => W0 t ∨ W t) (fun t y => Y0 t y ∨ Y t y) (c0 + c) ok Rw r I2 := ⟨h.1, fun o ho => (h.2.1 o ho).trans (hf o (fun z => ho (Or.inl z))), hd.tr h.2.2.1, h.2.2.2⟩
theorem AlP.iff {I2 : IT} {i l l' m : Nat} {W W' : Int → Prop} {Y Y' : Int → Int → Prop} {c c' : Int} {ok ok' : Prop} {Rw Rw' : IT → Prop} {r : Option AV ⊕ String} (h : AlP I i l l' m W Y c ok Rw r I2) (hW : ∀ t, 0 ≤ t → t < 6 → (W t ↔ W' t)) (hY : ∀ t y, Y t y ↔ Y' t y) (hc : c ≤ c') (ho : ok ↔ ok') (hR : Rw I2 → Rw' I2) : AlP I i l l' m W' Y' c' ok' Rw' r I2 := ⟨h.1, h.2.1, h.2.2.1.iff hW hY hc, by rw [← propext ho]; exact h.2.2.2.1, fun z => hR (h.2.2.2.2 (ho.mpr z))⟩
/-- the trial begins: a copy of the own rows, nothing is touched yet -/
def alI (I : IT) (i : Nat) : IT := up2 (cpyI I (tX i + 33) 0 1129 0 192) 1096 7 0
theorem alI_o {i o : Nat} (h1 : o ≠ 1129) (h2 : o ≠ 1096) : alI I i o = I o := funext (fun z => (up2_o _ _ _ _ h2).trans (if_neg (fun q => h1 q.1)))
theorem alI_c {i : Nat} : ∀ z, 0 ≤ z → z < 192 → alI I i 1129 z = I (tX i + 33) z := fun z z0 z1 => (up2_o _ _ _ _ (by decide)).trans ((if_pos ⟨rfl, z0, by omega⟩).trans (by rw [show 0 + (z - 0) = z by omega]))
def keY (I : IT) (i : Nat) (t y : Int) : Prop := t = I (tX i) 8 ∧ y = I (tX i) 9
/-- what a write's trial leaves and answers -/
def TriP (A : IT) (i l l' m : Nat) (r : Option AV ⊕ String) (I2 : IT) : Prop :=
  (A (tX i) 7 = 0 → AlP A i l l' m (fun _ => False) (insY A i) 5 (insOk A i) (insRw A i) r I2) ∧
  (A (tX i) 7 = 1 → AlP A i l l' m (fun _ => False) (fun t y => keY A i t y ∨ frY A i (A (tX i) 10) (A (tX i) 11) t y) 2 (updOk A i) (updRw A i) r I2) ∧
  (A (tX i) 7 ≠ 0 → A (tX i) 7 ≠ 1 → (seeP A i = -1 ∧ AlP A i l l' m (fun _ => False) (keY A i) 1 False (fun _ => True) r I2) ∨ (seeP A i ≠ -1 ∧ ∃ G, SpT (dlI A i) G ∧ (∀ c, 0 ≤ c → c < 192 → ¬ rfG G c 1) ∧ AlP A i l l' m (dlW G) (keY A i) 1 (¬ ∃ c, 0 ≤ c ∧ c < 192 ∧ rfG G c 0) (dlRw A G i) r I2))
theorem upd_of {A I1 : IT} {i : Nat} (h : InE A I1 i) : (updOk I1 i ↔ updOk A i) ∧ ∀ T, updRw I1 i T → updRw A i T := by
  have e8 : I1 (tX i) 8 = A (tX i) 8 := h.1 8 (by decide) (by decide)
  have e9 : I1 (tX i) 9 = A (tX i) 9 := h.1 9 (by decide) (by decide)
  have e10 : I1 (tX i) 10 = A (tX i) 10 := h.1 10 (by decide) (by decide)
  have e11 : I1 (tX i) 11 = A (tX i) 11 := h.1 11 (by decide) (by decide)
  have lo : ∀ o, o < 2000 → I1 o = A o := fun o ho => h.2.2 o (nTx_hi ho)
  have es := seeP_of (h.1 1 (by decide) (by decide)) e8 e9 (lo 1129 (by decide)) (lo 1032 (by decide)) (lo 1040 (by decide))
  have ef := (frC_of e8 h.2.1.2 (lo 1037 (by decide)) (A (tX i) 10) (A (tX i) 11)).1
  have e29 : ∀ z v, up2 I1 1129 z v 1129 = up2 A 1129 z v 1129 := fun z v => by
    funext y
    unfold up2
    rw [lo 1129 (by decide)]
  have ep : ∀ z v t s, scPass (up2 I1 1129 z v) 1035 1036 1129 t s = scPass (up2 A 1129 z v) 1035 1036 1129 t s := fun z v t s => scPass_of (funext (fun y => by rw [up2_o _ _ _ _ (by decide), up2_o _ _ _ _ (by decide), lo 1035 (by decide)])) (funext (fun y => by rw [up2_o _ _ _ _ (by decide), up2_o _ _ _ _ (by decide), lo 1036 (by decide)])) (e29 z v)
  constructor
  · unfold updOk
    rw [e10, e11, e8, es, ep, propext ef]
  · intro T
    unfold updRw
    rw [e10, e11, e8, e9, es, e29]
    exact id
theorem del_of {A I1 G : IT} {i : Nat} (h : InE A I1 i) (hG : SpT (dlI I1 i) G) : ∃ G' : IT, SpT (dlI A i) G' ∧ (∀ c r, rfG G' c r ↔ rfG G c r) ∧ (∀ t, dlW G' t ↔ dlW G t) ∧ ∀ T, dlRw I1 G i T → dlRw A G' i T := by
  have lo : ∀ o, o < 2000 → I1 o = A o := fun o ho => h.2.2 o (nTx_hi ho)
  have x0 : 2000 ≤ tX i := by unfold tX; omega
  have es := seeP_of (h.1 1 (by decide) (by decide)) (h.1 8 (by decide) (by decide)) (h.1 9 (by decide) (by decide)) (lo 1129 (by decide)) (lo 1032 (by decide)) (lo 1040 (by decide))
  have ed : ∀ o, o < 2000 → dlI I1 i o = dlI A i o := fun o ho => by
    funext z
    have er : ∀ c, refC I1 (tX i + 33) c = refC A (tX i + 33) c := fun c => by
      unfold refC
      rw [lo 1037 (by decide), h.2.1.2, (rwF_of h.2.1.2 _ _).2]
    unfold dlI
    rw [es]
    unfold up2 faI
    rw [er, lo o ho]
  let G' : IT := fun o => if o < 2000 then G o else A o
  have gl : ∀ o, o < 2000 → G' o = G o := fun o ho => if_pos ho
  have gh : ∀ o, 2000 ≤ o → G' o = A o := fun o ho => if_neg (by omega)
  have er : ∀ c r, rfG G' c r ↔ rfG G c r := rfG_of (gl _ (by decide)) (gl _ (by decide)) (gl _ (by decide))
  obtain ⟨h1, h2, h3, h4, h5⟩ := hG
  refine ⟨G', ⟨fun o ho => ?_, ?_, ?_, ?_, ?_⟩, er, fun t => ?_, fun T hT => ?_⟩
  · by_cases hl : o < 2000
    · rw [gl o hl, h1 o ho, ed o hl]
    · rw [gh o (by omega)]
      exact (dlI_o (by omega) (by omega) (by omega)).symm
  · intro p hp
    rw [gl 1099 (by decide), ← ed 1099 (by decide)]; exact h2 p hp
  · intro p p0 p1
    rw [gl 1099 (by decide)]; exact h3 p p0 p1
  · intro p hp
    rw [← ed 1099 (by decide)] at hp
    rw [gl 1099 (by decide)]; exact h4 p hp
  · intro X a b p p0 p1 hp
    rw [gl 1099 (by decide)] at hp
    refine h5 X (fun p p0 p1 hp => a p p0 p1 (by rw [← ed 1099 (by decide)]; exact hp)) (fun c c0 c1 g1 g2 g3 => ?_) p p0 p1 hp
    have e11 := ed 1101 (by decide)
    have e38 := ed 1038 (by decide)
    rw [e11] at g1 g2
    rw [e38] at g3
    exact b c c0 c1 g1 g2 g3
  · unfold dlW
    rw [gl 1099 (by decide), gl 1032 (by decide)]
    have : ∀ q, scRef G' 1034 1037 t q = scRef G 1034 1037 t q := fun q => by
      unfold scRef
      rw [gl 1034 (by decide), gl 1037 (by decide)]
    constructor
    · rintro ⟨q, a, b, c, d, e⟩
      exact ⟨q, a, b, c, d, by rw [← this]; exact e⟩
    · rintro ⟨q, a, b, c, d, e⟩
      exact ⟨q, a, b, c, d, by rw [this]; exact e⟩
  · obtain ⟨a, n, M, b, c, d⟩ := hT
    refine ⟨fun z z0 z1 => ?_, n, M, fun p p0 p1 => ?_, by rw [c, h.2.1.2], d⟩
    · rw [a z z0 z1, propext (er z 2), gl 1099 (by decide), lo 1129 (by decide)]
    · rw [b p p0 p1]
      unfold dlD
      rw [gl 1099 (by decide)]
      constructor
      · rintro (⟨c, a, b, d, e⟩ | z)
        · exact Or.inl ⟨c, a, b, d, (er c 2).mpr e⟩
        · exact Or.inr z
      · rintro (⟨c, a, b, d, e⟩ | z)
        · exact Or.inl ⟨c, a, b, d, (er c 2).mp e⟩
        · exact Or.inr z
end
