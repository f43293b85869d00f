/-! the schema's calls: class and reference stay related -/
section
variable {I S : IT} {n N g nq : Nat} {lv mv : Nat → Nat} {q x t c w v o r : Int}
theorem dpI_o {a : Nat} (h : a < 10000 ∨ 12000 ≤ a) : ∀ j, j ≤ 20 → dpI I j a = I a := by
  intro j
  induction j with
  | zero => intro _; rfl
  | succ j ihZ =>
    intro hj
    funext z
    unfold dpI
    split
    · rw [ihZ (by omega)]
    · rw [up2_o _ _ _ _ (by unfold qX; omega), ihZ (by omega)]
theorem ER.table (h : ER I S n N g lv mv q) (hl : ∀ j, j < n → lv j < 15 ∧ mv j < 15) (hg : g < 10) (hno : ∀ i, ¬ opS S n i) (hq : nq ≤ 20) (hx : 1 ≤ x ∧ x ≤ 4) (h6 : S 100 0 < 6) : ER (up2 (up2 (dpI I nq) 1034 (dpI I nq 1032 0) x) 1032 0 (dpI I nq 1032 0 + 1)) (f_Model_table x S).1 n N g lv mv q ∧ dpI I nq 1032 0 + 1 - 1 = (f_Model_table x S).2 := by
  obtain ⟨sr, ss⟩ := h.sch
  have hbZ := h.mb
  have d32Z : dpI I nq 1032 0 = I 1032 0 := dpI_k (Or.inr (by decide)) nq
  have s1Z : ∀ k, (f_Model_table x S).1 201 k = if k = S 100 0 then x else S 201 k := fun k => by
    show filI (up2 (up2 S 201 (S 100 0) x) 100 0 (S 100 0 + 1)) 263 0 20 0 201 k = _
    rw [filI_fr (by decide), up2_o _ _ _ _ (by decide), up2_if]
  have s0Z : (f_Model_table x S).1 100 0 = S 100 0 + 1 := by
    show filI (up2 (up2 S 201 (S 100 0) x) 100 0 (S 100 0 + 1)) 263 0 20 0 100 0 = _
    rw [filI_fr (by decide), up2_eq]
  have so : ∀ (a : Nat) k, a ≠ 201 → a ≠ 263 → ¬ (a = 100 ∧ k = 0) → (f_Model_table x S).1 a k = S a k := fun a k h1 h2 h3 => by
    show filI (up2 (up2 S 201 (S 100 0) x) 100 0 (S 100 0 + 1)) 263 0 20 0 a k = _
    rw [filI_fr h2]
    by_cases eZ : a = 100
    · subst eZ; rw [up2_k _ _ _ _ (fun z => h3 ⟨rfl, z⟩), up2_o _ _ _ _ h1]
    · rw [up2_o _ _ _ _ eZ, up2_o _ _ _ _ h1]
  refine ⟨?_, by rw [d32Z, sr.1]; rfl⟩
  revert s1Z s0Z so
  generalize (f_Model_table x S).1 = T
  intro s1Z s0Z so
  have t0q := hbZ.tab
  have sf : ∀ (a : Nat), a ≠ 201 → a ≠ 263 → a ≠ 100 → T a = S a := fun a h1 h2 h3 => funext (fun k => so a k h1 h2 (fun z => h3 z.1))
  refine h.quiet hl hg hno (fun a ha => funext (fun k => ?_)) (fun a k h1 h2 h3 => so a k (by omega) h2 (fun z => h3 ⟨z.1, Or.inl z.2⟩)) (sch_table ⟨sr, ss⟩ hx h6 ⟨?_, ?_, fun k => ?_, fun a h1 h2 => funext (fun k => ?_)⟩ ⟨s0Z, so 100 8 (by decide) (by decide) (by decide), s1Z, fun a h1 h2 => sf a (by omega) (by omega) (by omega)⟩) ⟨by omega, fun k => ?_, ?_, ?_, ?_, ?_, ?_, ?_, ?_, ?_⟩ (fun k ρ k0 k1 hm => ?_)
  · rw [up2_o _ _ _ _ (by omega), up2_o _ _ _ _ (by omega), dpI_o (by omega) nq hq]
  · rw [up2_eq, d32Z]
  · rw [up2_k _ _ _ _ (by decide), up2_o _ _ _ _ (by decide)]; exact dpI_k (Or.inr (by decide)) nq
  · rw [up2_o _ _ _ _ (by decide), up2_if, d32Z, dpI_k (Or.inr (by decide)) nq]
  · rw [up2_o _ _ _ _ (by omega), up2_o _ _ _ _ (by omega), dpI_o (by omega) nq hq]
  · rw [s1Z]
    split
    · omega
    · exact hbZ.col k
  · rw [sf 202 (by decide) (by decide) (by decide)]; exact hbZ.2.2.1
  · rw [sf 206 (by decide) (by decide) (by decide)]; exact hbZ.2.2.2.1
  · rw [so 100 8 (by decide) (by decide) (by decide)]; exact hbZ.2.2.2.2.1
  · rw [sf 211 (by decide) (by decide) (by decide)]; exact hbZ.2.2.2.2.2.1
  · rw [sf 214 (by decide) (by decide) (by decide)]; exact hbZ.2.2.2.2.2.2.1
  · rw [so 100 19 (by decide) (by decide) (by decide)]; exact hbZ.2.2.2.2.2.2.2.1
  · rw [sf 223 (by decide) (by decide) (by decide)]; exact hbZ.2.2.2.2.2.2.2.2.1
  · rw [sf 236 (by decide) (by decide) (by decide)]; exact hbZ.2.2.2.2.2.2.2.2.2
  · unfold mIn at hm
    rw [sf 214 (by decide) (by decide) (by decide), sf 215 (by decide) (by decide) (by decide)] at hm
    exact (rowOk_of (fun z => so 202 z (by decide) (by decide) (by omega)) (fun z => so 203 z (by decide) (by decide) (by omega)) (fun z => so 204 z (by decide) (by decide) (by omega)) (fun z => so 205 z (by decide) (by decide) (by omega))).mpr (h.st.2.2 k ρ k0 k1 hm)
theorem ER.check (h : ER I S n N g lv mv q) (hl : ∀ j, j < n → lv j < 15 ∧ mv j < 15) (hg : g < 10) (hno : ∀ i, ¬ opS S n i) (hq : nq ≤ 20) (ht : 0 ≤ t ∧ t < S 100 0) (hc : 0 ≤ c ∧ c < S 201 t) (h4 : S 202 t < 4) (h0 : S 214 (24 + t) ≤ 0) :
    ER (up2 (up2 (up2 (up2 (dpI I nq) 1036 ((t * 4 + dpI I nq 1035 t) * 3) c) 1036 (((t * 4 + dpI I nq 1035 t) * 3) + 1) w) 1036 (((t * 4 + dpI I nq 1035 t) * 3) + 2) v) 1035 t (dpI I nq 1035 t + 1)) (f_Model_check t c w v S).1 n N g lv mv q ∧ dpI I nq 1035 t + 1 = (f_Model_check t c w v S).2 := by
  obtain ⟨sr, ss⟩ := h.sch
  have hbZ := h.mb
  have d35Z : dpI I nq 1035 t = I 1035 t := dpI_k (Or.inr (by decide)) nq
  have t6 : t < 6 := by have := ss.1; omega
  have e35 := (sr.2.1 t ht.1 t6).2
  have b4 := ss.2.2.2.1 t ht.1 t6
  have s2Z : ∀ k, (f_Model_check t c w v S).1 202 k = if k = t then S 202 t + 1 else S 202 k := fun k => by
    show filI (up2 (up2 (up2 (up2 S 203 (4 * t + S 202 t) c) 204 (4 * t + S 202 t) w) 205 (4 * t + S 202 t) v) 202 t (S 202 t + 1)) 263 0 20 0 202 k = _
    rw [filI_fr (by decide), up2_if, up2_o _ _ _ _ (by decide), up2_o _ _ _ _ (by decide), up2_o _ _ _ _ (by decide)]
  have s3Z : ∀ k, (f_Model_check t c w v S).1 203 k = if k = 4 * t + S 202 t then c else S 203 k := fun k => by
    show filI (up2 (up2 (up2 (up2 S 203 (4 * t + S 202 t) c) 204 (4 * t + S 202 t) w) 205 (4 * t + S 202 t) v) 202 t (S 202 t + 1)) 263 0 20 0 203 k = _
    rw [filI_fr (by decide), up2_o _ _ _ _ (by decide), up2_o _ _ _ _ (by decide), up2_o _ _ _ _ (by decide), up2_if]
  have s4Z : ∀ k, (f_Model_check t c w v S).1 204 k = if k = 4 * t + S 202 t then w else S 204 k := fun k => by
    show filI (up2 (up2 (up2 (up2 S 203 (4 * t + S 202 t) c) 204 (4 * t + S 202 t) w) 205 (4 * t + S 202 t) v) 202 t (S 202 t + 1)) 263 0 20 0 204 k = _
    rw [filI_fr (by decide), up2_o _ _ _ _ (by decide), up2_o _ _ _ _ (by decide), up2_if, up2_o _ _ _ _ (by decide)]
  have s5 : ∀ k, (f_Model_check t c w v S).1 205 k = if k = 4 * t + S 202 t then v else S 205 k := fun k => by
    show filI (up2 (up2 (up2 (up2 S 203 (4 * t + S 202 t) c) 204 (4 * t + S 202 t) w) 205 (4 * t + S 202 t) v) 202 t (S 202 t + 1)) 263 0 20 0 205 k = _
    rw [filI_fr (by decide), up2_o _ _ _ _ (by decide), up2_if, up2_o _ _ _ _ (by decide), up2_o _ _ _ _ (by decide)]
  have sf : ∀ (a : Nat), (a < 202 ∨ 205 < a) → a ≠ 263 → (f_Model_check t c w v S).1 a = S a := fun a h1 h2 => funext (fun k => by
    show filI (up2 (up2 (up2 (up2 S 203 (4 * t + S 202 t) c) 204 (4 * t + S 202 t) w) 205 (4 * t + S 202 t) v) 202 t (S 202 t + 1)) 263 0 20 0 a k = _
    rw [filI_fr h2, up2_o _ _ _ _ (by omega), up2_o _ _ _ _ (by omega), up2_o _ _ _ _ (by omega), up2_o _ _ _ _ (by omega)])
  refine ⟨?_, by rw [d35Z, e35]; rfl⟩
  rw [d35Z]
  revert s2Z s3Z s4Z s5 sf
  generalize (f_Model_check t c w v S).1 = T
  intro s2Z s3Z s4Z s5 sf
  have f100 := sf 100 (by decide) (by decide)
  refine h.quiet hl hg hno (fun a ha => funext (fun k => ?_)) (fun a k h1 h2 h3 => by rw [sf a (by omega) h2]) (sch_check ⟨sr, ss⟩ ht hc h4 ⟨fun k => ?_, fun k => ?_, fun a h1 h2 h3 h5 => funext (fun k => ?_)⟩ ⟨s2Z, s3Z, s4Z, s5, sf 201 (by decide) (by decide), fun a h1 h2 => sf a (by omega) (by omega), by rw [f100], by rw [f100]⟩) ⟨by rw [f100]; exact hbZ.1, by rw [sf 201 (by decide) (by decide)]; exact hbZ.2.1, fun k => ?_, ?_, ?_, ?_, ?_, ?_, ?_, ?_⟩ (fun k ρ k0 k1 hm => ?_)
  · rw [up2_o _ _ _ _ (by omega), up2_o _ _ _ _ (by omega), up2_o _ _ _ _ (by omega), up2_o _ _ _ _ (by omega), dpI_o (by omega) nq hq]
  · rw [up2_if, up2_o _ _ _ _ (by decide), up2_o _ _ _ _ (by decide), up2_o _ _ _ _ (by decide), dpI_k (Or.inr (by decide)) nq]
  · rw [up2_o _ _ _ _ (by decide), up2_if, up2_if, up2_if, dpI_k (Or.inr (by decide)) nq]
    by_cases z0 : k = (t * 4 + I 1035 t) * 3
    · rw [if_neg (by omega), if_neg (by omega), if_pos z0, if_pos z0]
    · by_cases z1 : k = (t * 4 + I 1035 t) * 3 + 1
      · rw [if_neg (by omega), if_pos z1, if_neg z0, if_pos z1]
      · by_cases z2 : k = (t * 4 + I 1035 t) * 3 + 2
        · rw [if_pos z2, if_neg z0, if_neg z1, if_pos z2]
        · rw [if_neg z2, if_neg z1, if_neg z0, if_neg z0, if_neg z1, if_neg z2]
  · rw [up2_o _ _ _ _ (by omega), up2_o _ _ _ _ (by omega), up2_o _ _ _ _ (by omega), up2_o _ _ _ _ (by omega), dpI_o (by omega) nq hq]
  · rw [s2Z]
    split
    · omega
    · exact hbZ.chk k
  · rw [sf 206 (by decide) (by decide)]; exact hbZ.2.2.2.1
  · rw [f100]; exact hbZ.2.2.2.2.1
  · rw [sf 211 (by decide) (by decide)]; exact hbZ.2.2.2.2.2.1
  · rw [sf 214 (by decide) (by decide)]; exact hbZ.2.2.2.2.2.2.1
  · rw [f100]; exact hbZ.2.2.2.2.2.2.2.1
  · rw [sf 223 (by decide) (by decide)]; exact hbZ.2.2.2.2.2.2.2.2.1
  · rw [sf 236 (by decide) (by decide)]; exact hbZ.2.2.2.2.2.2.2.2.2
  · unfold mIn at hm
    rw [sf 214 (by decide) (by decide), sf 215 (by decide) (by decide)] at hm
    by_cases eZ : k = t
    · obtain ⟨zZ, z0, z1, -⟩ := hm
      rw [eZ, show (6 : Int) * 4 + t = 24 + t by omega] at z1
      omega
    · have oldZ := h.st.2.2 k ρ k0 k1 hm
      unfold rowOk at oldZ ⊢
      intro j j0 j1
      rw [s2Z, if_neg eZ] at j1
      have b5 := ss.2.2.2.1 k k0 k1
      rw [s3Z, s4Z, s5, if_neg (by omega), if_neg (by omega), if_neg (by omega)]
      exact oldZ j j0 j1
theorem ER.refer (h : ER I S n N g lv mv q) (hl : ∀ j, j < n → lv j < 15 ∧ mv j < 15) (hg : g < 10) (hno : ∀ i, ¬ opS S n i) (hq : nq ≤ 20) (ht : 0 ≤ t ∧ t < S 100 0) (hc : 1 ≤ c ∧ c < S 201 t) (ho : 0 ≤ o ∧ o < S 100 0) :
    ER (up2 (up2 (dpI I nq) 1037 (t * 4 + c) o) 1038 (t * 4 + c) r) (f_Model_refer t c o r S).1 n N g lv mv q := by
  obtain ⟨sr, ss⟩ := h.sch
  have hbZ := h.mb
  have s6Z : ∀ k, (f_Model_refer t c o r S).1 206 k = if k = 4 * t + c then o else S 206 k := fun k => by
    show filI (up2 (up2 S 206 (4 * t + c) o) 207 (4 * t + c) r) 263 0 20 0 206 k = _
    rw [filI_fr (by decide), up2_o _ _ _ _ (by decide), up2_if]
  have s7 : ∀ k, (f_Model_refer t c o r S).1 207 k = if k = 4 * t + c then r else S 207 k := fun k => by
    show filI (up2 (up2 S 206 (4 * t + c) o) 207 (4 * t + c) r) 263 0 20 0 207 k = _
    rw [filI_fr (by decide), up2_if, up2_o _ _ _ _ (by decide)]
  have sf : ∀ (a : Nat), a ≠ 206 → a ≠ 207 → a ≠ 263 → (f_Model_refer t c o r S).1 a = S a := fun a h1 h2 h3 => funext (fun k => by
    show filI (up2 (up2 S 206 (4 * t + c) o) 207 (4 * t + c) r) 263 0 20 0 a k = _
    rw [filI_fr h3, up2_o _ _ _ _ h2, up2_o _ _ _ _ h1])
  revert s6Z s7 sf
  generalize (f_Model_refer t c o r S).1 = T
  intro s6Z s7 sf
  have f100 := sf 100 (by decide) (by decide) (by decide)
  refine h.quiet hl hg hno (fun a ha => funext (fun k => ?_)) (fun a k h1 h2 h3 => by rw [sf a (by omega) (by omega) h2]) (sch_refer ⟨sr, ss⟩ ht hc ho ⟨fun k => ?_, fun k => ?_, fun a h1 h2 h3 h4 => funext (fun k => ?_)⟩ ⟨s6Z, s7, fun a h1 h2 h3 h4 => sf a h3 h4 (by omega), by rw [f100], by rw [f100]⟩) ⟨by rw [f100]; exact hbZ.1, by rw [sf 201 (by decide) (by decide) (by decide)]; exact hbZ.2.1, by rw [sf 202 (by decide) (by decide) (by decide)]; exact hbZ.2.2.1, fun k => ?_, ?_, ?_, ?_, ?_, ?_, ?_⟩ (fun k ρ k0 k1 hm => ?_)
  · rw [up2_o _ _ _ _ (by omega), up2_o _ _ _ _ (by omega), dpI_o (by omega) nq hq]
  · rw [up2_o _ _ _ _ (by decide), up2_if, dpI_k (Or.inr (by decide)) nq]
  · rw [up2_if, up2_o _ _ _ _ (by decide), dpI_k (Or.inr (by decide)) nq]
  · rw [up2_o _ _ _ _ h4, up2_o _ _ _ _ h3, dpI_o (by omega) nq hq]
  · rw [s6Z]
    have := ss.1
    split
    · omega
    · exact hbZ.tgt k
  · rw [f100]; exact hbZ.2.2.2.2.1
  · rw [sf 211 (by decide) (by decide) (by decide)]; exact hbZ.2.2.2.2.2.1
  · rw [sf 214 (by decide) (by decide) (by decide)]; exact hbZ.2.2.2.2.2.2.1
  · rw [f100]; exact hbZ.2.2.2.2.2.2.2.1
  · rw [sf 223 (by decide) (by decide) (by decide)]; exact hbZ.2.2.2.2.2.2.2.2.1
  · rw [sf 236 (by decide) (by decide) (by decide)]; exact hbZ.2.2.2.2.2.2.2.2.2
  · unfold mIn at hm
    rw [sf 214 (by decide) (by decide) (by decide), sf 215 (by decide) (by decide) (by decide)] at hm
    exact (rowOk_of (fun z => by rw [sf 202 (by decide) (by decide) (by decide)]) (fun z => by rw [sf 203 (by decide) (by decide) (by decide)]) (fun z => by rw [sf 204 (by decide) (by decide) (by decide)]) (fun z => by rw [sf 205 (by decide) (by decide) (by decide)])).mpr (h.st.2.2 k ρ k0 k1 hm)
theorem ER.veil (h : ER I S n N g lv mv q) (hl : ∀ j, j < n → lv j < 15 ∧ mv j < 15) (hg : g < 10) (hno : ∀ i, ¬ opS S n i) (hq : nq ≤ 20) (h12 : S 100 8 < 12) (ht : 0 ≤ t ∧ t < S 100 0) (hc : 0 ≤ c ∧ c < S 201 t) :
    ER (up2 (up2 (up2 (up2 (up2 (up2 (dpI I nq) 1040 (dpI I nq 1032 6 * 5) r) 1040 (dpI I nq 1032 6 * 5 + 1) t) 1040 (dpI I nq 1032 6 * 5 + 2) c) 1040 (dpI I nq 1032 6 * 5 + 3) w) 1040 (dpI I nq 1032 6 * 5 + 4) v) 1032 6 (dpI I nq 1032 6 + 1)) (f_Model_veil r t c w v S).1 n N g lv mv q ∧ dpI I nq 1032 6 + 1 = (f_Model_veil r t c w v S).2 := by
  obtain ⟨sr, ss⟩ := h.sch
  have hbZ := h.mb
  have d32Z : dpI I nq 1032 6 = I 1032 6 := dpI_k (Or.inr (by decide)) nq
  have w4Z := ss.2.1 t ht.1 ht.2
  have c4Z : 0 ≤ c ∧ c < 4 := by omega
  have ef : (f_Model_veil r t c w v S).1 = filI (up2 (up2 (up2 (up2 (up2 (up2 S 209 (S 100 8) r) 210 (S 100 8) t) 211 (S 100 8) c) 212 (S 100 8) w) 213 (S 100 8) v) 100 8 (S 100 8 + 1)) 263 0 20 0 := rfl
  have s9 : ∀ k, (f_Model_veil r t c w v S).1 209 k = if k = S 100 8 then r else S 209 k := fun k => by
    rw [ef, filI_fr (by decide), up2_o _ _ _ _ (by decide), up2_o _ _ _ _ (by decide), up2_o _ _ _ _ (by decide), up2_o _ _ _ _ (by decide), up2_o _ _ _ _ (by decide), up2_if]
  have s10 : ∀ k, (f_Model_veil r t c w v S).1 210 k = if k = S 100 8 then t else S 210 k := fun k => by
    rw [ef, filI_fr (by decide), up2_o _ _ _ _ (by decide), up2_o _ _ _ _ (by decide), up2_o _ _ _ _ (by decide), up2_o _ _ _ _ (by decide), up2_if, up2_o _ _ _ _ (by decide)]
  have s11 : ∀ k, (f_Model_veil r t c w v S).1 211 k = if k = S 100 8 then c else S 211 k := fun k => by
    rw [ef, filI_fr (by decide), up2_o _ _ _ _ (by decide), up2_o _ _ _ _ (by decide), up2_o _ _ _ _ (by decide), up2_if, up2_o _ _ _ _ (by decide), up2_o _ _ _ _ (by decide)]
  have s12 : ∀ k, (f_Model_veil r t c w v S).1 212 k = if k = S 100 8 then w else S 212 k := fun k => by
    rw [ef, filI_fr (by decide), up2_o _ _ _ _ (by decide), up2_o _ _ _ _ (by decide), up2_if, up2_o _ _ _ _ (by decide), up2_o _ _ _ _ (by decide), up2_o _ _ _ _ (by decide)]
  have s13 : ∀ k, (f_Model_veil r t c w v S).1 213 k = if k = S 100 8 then v else S 213 k := fun k => by
    rw [ef, filI_fr (by decide), up2_o _ _ _ _ (by decide), up2_if, up2_o _ _ _ _ (by decide), up2_o _ _ _ _ (by decide), up2_o _ _ _ _ (by decide), up2_o _ _ _ _ (by decide)]
  have s8 : (f_Model_veil r t c w v S).1 100 8 = S 100 8 + 1 := by rw [ef, filI_fr (by decide), up2_eq]
  have so : ∀ (a : Nat) k, (a < 209 ∨ 213 < a) → a ≠ 263 → ¬ (a = 100 ∧ k = 8) → (f_Model_veil r t c w v S).1 a k = S a k := fun a k h1 h2 h3 => by
    rw [ef, filI_fr h2]
    by_cases eZ : a = 100
    · subst eZ; rw [up2_k _ _ _ _ (fun z => h3 ⟨rfl, z⟩), up2_o _ _ _ _ (by omega), up2_o _ _ _ _ (by omega), up2_o _ _ _ _ (by omega), up2_o _ _ _ _ (by omega), up2_o _ _ _ _ (by omega)]
    · rw [up2_o _ _ _ _ eZ, up2_o _ _ _ _ (by omega), up2_o _ _ _ _ (by omega), up2_o _ _ _ _ (by omega), up2_o _ _ _ _ (by omega), up2_o _ _ _ _ (by omega)]
  refine ⟨?_, by rw [d32Z, sr.2.2.2.2.1]; rfl⟩
  clear ef
  rw [d32Z]
  revert s9 s10 s11 s12 s13 s8 so
  generalize (f_Model_veil r t c w v S).1 = T
  intro s9 s10 s11 s12 s13 s8 so
  have sf : ∀ (a : Nat), (a < 209 ∨ 213 < a) → a ≠ 263 → a ≠ 100 → T a = S a := fun a h1 h2 h3 => funext (fun k => so a k h1 h2 (fun z => h3 z.1))
  refine h.quiet hl hg hno (fun a ha => funext (fun k => ?_)) (fun a k h1 h2 h3 => so a k (by omega) h2 (fun z => h3 ⟨z.1, Or.inr z.2⟩)) (sch_veil (r := r) (t := t) (w := w) (v := v) ⟨sr, ss⟩ h12 c4Z ⟨?_, ?_, fun k => ?_, fun a h1 h2 => funext (fun k => ?_)⟩ ⟨so 100 0 (by decide) (by decide) (by decide), s8, s9, s10, s11, s12, s13, fun a h1 h2 => sf a (by omega) (by omega) (by omega)⟩) ⟨?_, by rw [sf 201 (by decide) (by decide) (by decide)]; exact hbZ.2.1, by rw [sf 202 (by decide) (by decide) (by decide)]; exact hbZ.2.2.1, by rw [sf 206 (by decide) (by decide) (by decide)]; exact hbZ.2.2.2.1, ?_, fun k => ?_, ?_, ?_, ?_, ?_⟩ (fun k ρ k0 k1 hm => ?_)
  · rw [up2_o _ _ _ _ (by omega), up2_o _ _ _ _ (by omega), up2_o _ _ _ _ (by omega), up2_o _ _ _ _ (by omega), up2_o _ _ _ _ (by omega), up2_o _ _ _ _ (by omega), dpI_o (by omega) nq hq]
  · rw [up2_k _ _ _ _ (by decide), up2_o _ _ _ _ (by decide), up2_o _ _ _ _ (by decide), up2_o _ _ _ _ (by decide), up2_o _ _ _ _ (by decide), up2_o _ _ _ _ (by decide)]; exact dpI_k (Or.inr (by decide)) nq
  · rw [up2_eq]
  · rw [up2_o _ _ _ _ (by decide), up2_if, up2_if, up2_if, up2_if, up2_if, dpI_k (Or.inr (by decide)) nq]
    by_cases z0 : k = I 1032 6 * 5
    · rw [if_neg (by omega), if_neg (by omega), if_neg (by omega), if_neg (by omega), if_pos z0, if_pos z0]
    rw [if_neg z0]
    by_cases z1 : k = I 1032 6 * 5 + 1
    · rw [if_neg (by omega), if_neg (by omega), if_neg (by omega), if_pos z1, if_neg z0, if_pos z1]
    rw [if_neg z1, if_neg z0, if_neg z1]
    by_cases z2 : k = I 1032 6 * 5 + 2
    · rw [if_neg (by omega), if_neg (by omega), if_pos z2, if_pos z2]
    rw [if_neg z2, if_neg z2]
    by_cases z3 : k = I 1032 6 * 5 + 3
    · rw [if_neg (by omega), if_pos z3, if_pos z3]
    rw [if_neg z3, if_neg z3]
  · rw [up2_o _ _ _ _ (by omega), up2_o _ _ _ _ (by omega), up2_o _ _ _ _ (by omega), up2_o _ _ _ _ (by omega), up2_o _ _ _ _ (by omega), up2_o _ _ _ _ (by omega), dpI_o (by omega) nq hq]
  · rw [so 100 0 (by decide) (by decide) (by decide)]; exact hbZ.1
  · rw [s8]; have := hbZ.vei; omega
  · rw [s11]
    split
    · exact c4Z
    · exact hbZ.vco k
  · rw [sf 214 (by decide) (by decide) (by decide)]; exact hbZ.2.2.2.2.2.2.1
  · rw [so 100 19 (by decide) (by decide) (by decide)]; exact hbZ.2.2.2.2.2.2.2.1
  · rw [sf 223 (by decide) (by decide) (by decide)]; exact hbZ.2.2.2.2.2.2.2.2.1
  · rw [sf 236 (by decide) (by decide) (by decide)]; exact hbZ.2.2.2.2.2.2.2.2.2
  · unfold mIn at hm
    rw [sf 214 (by decide) (by decide) (by decide), sf 215 (by decide) (by decide) (by decide)] at hm
    exact (rowOk_of (fun z => so 202 z (by decide) (by decide) (by omega)) (fun z => so 203 z (by decide) (by decide) (by omega)) (fun z => so 204 z (by decide) (by decide) (by omega)) (fun z => so 205 z (by decide) (by decide) (by omega))).mpr (h.st.2.2 k ρ k0 k1 hm)
end
