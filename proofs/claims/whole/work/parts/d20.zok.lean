/-! the account and its bounds, kept by each try -/
section
variable {I S B T W : IT} {k n N g i : Nat} {q : Int} {lv mv : Nat → Nat}
/-- rows were written of tables that are there -/
def WtB (S : IT) : Prop := ∀ r : Int, 0 ≤ r → r < S 100 44 → S 246 r = 0 → S 248 r < S 100 0
def WaB (S : IT) : Prop := ∀ x : Int, 0 ≤ x → x < 60 → S 225 x = -1 ∨ (0 ≤ S 225 x ∧ S 225 x < 60)
/-- those not begun have read nothing -/
def RdZ (S : IT) : Prop := (∀ j : Int, ¬ (0 ≤ j ∧ j < S 100 19) → S 233 j = 0) ∧ ∀ j : Int, S 100 19 ≤ j → j < 60 → ∀ t, 0 ≤ t → t < 6 → S 236 (6 * j + t) = 0
theorem RdZ.of (h : RdZ S) (e : T 100 19 = S 100 19) (e3 : T 233 = S 233) (e6 : T 236 = S 236) : RdZ T := ⟨fun j hj => by rw [e3]; exact h.1 j (by rw [← e]; exact hj), fun j j0 j1 => by rw [e6]; exact h.2 j (by rw [← e]; exact j0) j1⟩
/-- commits and checks are flushed -/
def CmB (S : IT) : Prop := ∀ r : Int, 0 ≤ r → r < S 100 44 → (S 246 r = 1 ∨ S 246 r = 4) → r < S 100 45
/-- what isn't flushed of an ended one is undone -/
def AbB (S : IT) : Prop := ∀ r : Nat, S 100 45 ≤ (r : Int) → (r : Int) < S 100 44 → S 246 r = 3 → (unM S (S 247 r) r).length ≤ nUn S (S 247 r) r
def EnB (S : IT) : Prop := ∀ j : Nat, (j : Int) < S 100 19 → S 221 j = 3 → (∃ r, 0 ≤ r ∧ r < S 100 44 ∧ S 246 r = 0 ∧ S 247 r = j) → ∃ r, 0 ≤ r ∧ r < S 100 44 ∧ S 246 r = 3 ∧ S 247 r = j
def ZI (k : Nat) (i : Int) (S : IT) : Prop := ZA k i S ∧ WtB S ∧ WaB S ∧ RdZ S ∧ CmB S ∧ AbB S ∧ EnB S
/-- what is committed is as it was -/
def St4 (B S : IT) : Prop := (∀ k, 24 ≤ k → S 214 k = B 214 k) ∧ ∀ z, 6144 ≤ z → S 215 z = B 215 z
theorem St4.rf : St4 S S := ⟨fun _ _ => rfl, fun _ _ => rfl⟩
theorem St4.of (e4 : T 214 = S 214) (e5 : T 215 = S 215) : St4 S T := ⟨fun k _ => congrFun e4 k, fun z _ => congrFun e5 z⟩
theorem St4.tr (h : St4 B S) (h2 : St4 S T) : St4 B T := ⟨fun k hk => (h2.1 k hk).trans (h.1 k hk), fun z hz => (h2.2 z hz).trans (h.2 z hz)⟩
/-- the same, and the rest is as it was in B -/
def ZB (B : IT) (k : Nat) (i : Int) (S : IT) : Prop := ZI k i S ∧ (∀ o y, ¬ tyX o y → S o y = B o y) ∧ (0 ≤ i → S 233 i ≤ 2040) ∧ St4 B S
theorem nUn_of {j : Int} {m : Nat} (h : ∀ r : Nat, r < m → T 246 r = S 246 r ∧ T 247 r = S 247 r) : nUn T j m = nUn S j m := by
  unfold nUn
  rw [cntI_eq (a := mUnG T j) (b := mUnG S j) m (fun r hr => by unfold mUnG; rw [(h r hr).1, (h r hr).2])]
/-- the bounds that hang on the log alone -/
theorem ab_of (h : AbB S) (e : ∀ o, 246 ≤ o → o ≤ 249 → T o = S o) (e4 : T 100 44 = S 100 44) (e5 : T 100 45 = S 100 45) : AbB T := fun r r0 r1 r2 => by
  rw [e5] at r0
  rw [e4] at r1
  rw [e 246 (by decide) (by decide)] at r2
  have := h r r0 r1 r2
  rw [e 247 (by decide) (by decide), un_same r (fun p _ => by rw [e 246 (by decide) (by decide), e 247 (by decide) (by decide)]; exact ⟨rfl, rfl⟩), nUn_of (fun p _ => by rw [e 246 (by decide) (by decide), e 247 (by decide) (by decide)]; exact ⟨rfl, rfl⟩)]
  exact this
/-- what all these bounds hang on -/
theorem ZI.frm {k' : Nat} {i0 i' : Int} (h : ZI k i0 S) (hA : ZA k' i' T) (e : ∀ o, 246 ≤ o → o ≤ 249 → T o = S o) (e0 : T 100 0 = S 100 0 ∧ T 100 19 = S 100 19 ∧ T 100 44 = S 100 44 ∧ T 100 45 = S 100 45) (e2 : T 225 = S 225 ∧ T 233 = S 233 ∧ T 236 = S 236) (e3 : ∀ j : Nat, (j : Int) < S 100 19 → T 221 j = 3 → S 221 j = 3) : ZI k' i' T := by
  obtain ⟨-, h1, h2, h3, h4, h5, h6⟩ := h
  obtain ⟨a0, a1, a2, a3⟩ := e0
  obtain ⟨b0, b1, b2⟩ := e2
  have f6 := e 246 (by decide) (by decide)
  have f7 := e 247 (by decide) (by decide)
  have f8 := e 248 (by decide) (by decide)
  refine ⟨hA, fun r r0 r1 r2 => ?_, fun x x0 x1 => ?_, h3.of a1 b1 b2, fun r r0 r1 r2 => ?_, ab_of h5 e a2 a3, fun j hj h21 hr => ?_⟩
  · rw [a0, f8]
    exact h1 r r0 (by rw [← a2]; exact r1) (by rw [← f6]; exact r2)
  · rw [b0]; exact h2 x x0 x1
  · rw [a3]
    exact h4 r r0 (by rw [← a2]; exact r1) (by rw [← f6]; exact r2)
  · rw [a1] at hj
    rw [a2, f6, f7] at *
    exact h6 j hj (e3 j hj h21) hr
theorem ER.trih {q : Int} (hE : ER I S n N g lv mv q) (hi : i < n) (o0 : S 221 i = 0) (hp : PdE I S i) (h40 : S 233 i ≤ 2040) : TriH I S i (lv i) (S 223 i) := by
  have op : opS S n i := ⟨hi, by omega⟩
  have tx := hE.tx i hi
  exact ⟨hE.sch, (hE.own i op).1, (hE.own i op).2, ⟨rfl, tx.1.2.1⟩, hp, tx.2, ⟨(hE.rd.1 i hi).1, h40⟩, fun t => (hE.mb.col t).2⟩
theorem ZB.go (h : ZB B k (-1) S) (hE : ER I S n N g lv mv q) (hi : i < n) (hf : mFreed S i) : ZB B k i (mGo S i) := by
  obtain ⟨⟨hA, hW, hw, hr, hc, hb, he⟩, hB, -, h4⟩ := h
  have fo : ∀ o y, o ≠ 221 → o ≠ 225 → mGo S i o y = S o y := fun o y a b => by
    unfold mGo
    rw [up2_o _ _ _ _ b, up2_o _ _ _ _ a]
  have fu : ∀ o, o ≠ 221 → o ≠ 225 → mGo S i o = S o := fun o a b => funext (fun y => fo o y a b)
  have hm : ∀ y, mGo S i 100 y = S 100 y := fun y => fo 100 y (by decide) (by decide)
  refine ⟨⟨hA.go hf.1, fun r r0 r1 r2 => ?_, fun x x0 x1 => ?_, hr.of (hm 19) (fu 233 (by decide) (by decide)) (fu 236 (by decide) (by decide)), fun r r0 r1 r2 => ?_, ab_of hb (fun o a b => fu o (by omega) (by omega)) (hm 44) (hm 45), fun j hj h21 hx => ?_⟩, fun o y hn => ?_, fun _ => ?_, h4.tr (St4.of (fu 214 (by decide) (by decide)) (fu 215 (by decide) (by decide)))⟩
  · rw [hm] at r1 ⊢
    rw [fo 246 r (by decide) (by decide)] at r2
    rw [fo 248 r (by decide) (by decide)]
    exact hW r r0 r1 r2
  · unfold mGo
    by_cases e : x = (i : Int)
    · rw [e, up2_eq]; exact Or.inl rfl
    · rw [up2_k _ _ _ _ e, up2_o _ _ _ _ (by decide)]
      exact hw x x0 x1
  · rw [hm] at r1 ⊢
    rw [fo 246 r (by decide) (by decide)] at r2
    exact hc r r0 r1 r2
  · rw [hm] at hj
    rw [hm, fu 246 (by decide) (by decide), fu 247 (by decide) (by decide)] at hx ⊢
    refine he j hj ?_ hx
    by_cases e : (j : Int) = i
    · rw [e] at h21
      unfold mGo at h21
      rw [up2_o _ _ _ _ (by decide), up2_eq] at h21
      exact absurd h21 (by decide)
    · unfold mGo at h21
      rw [up2_o _ _ _ _ (by decide), up2_k _ _ _ _ e] at h21
      exact h21
  · rw [fo o y (fun z => hn (by unfold tyX; omega)) (fun z => hn (by unfold tyX; omega))]
    exact hB o y hn
  · rw [fo 233 _ (by decide) (by decide)]
    have p := (hE.ph i hi).2.1 hf.1
    have f2 := hf.2
    have ne : S 225 i ≠ (i : Int) := fun z => by
      have f1 := hf.1
      rw [z, f1] at f2
      omega
    have r1 := (hE.rd.1 i hi).2
    have r2 := hE.rd.2.2
    omega
theorem un_mono {j : Int} : ∀ a b : Nat, (unM S j a).length ≤ (unM S j (a + b)).length
  | a, 0 => Nat.le_refl _
  | a, b + 1 => by
    have ih := un_mono (j := j) a b
    by_cases y : S 246 ((a + b : Nat) : Int) = 0 ∧ S 247 ((a + b : Nat) : Int) = j
    · have e : unM S j (a + b + 1) = (2, j, S 248 ((a + b : Nat) : Int), S 249 ((a + b : Nat) : Int)) :: unM S j (a + b) := if_pos y
      show _ ≤ (unM S j (a + b + 1)).length
      rw [e, List.length_cons]; omega
    · have e : unM S j (a + b + 1) = unM S j (a + b) := if_neg y
      show _ ≤ (unM S j (a + b + 1)).length
      rw [e]; exact ih
theorem cnt_run {p : Int → Prop} (a : Nat) : ∀ m : Nat, (∀ j : Nat, j < m → p ((a + j : Nat) : Int)) → (m : Int) ≤ cntI p (a + m)
  | 0, _ => (cntI_rg p a).1
  | m + 1, h => by
    have ih := cnt_run a m (fun j hj => h j (by omega))
    have := cntI_yes (h m (by omega))
    show ((m + 1 : Nat) : Int) ≤ cntI p (a + m + 1)
    omega
/-- records of an abort that came leave what isn't flushed in order -/
theorem AbB.aborts {L : List Rc} (h : AbB S) (s44 : S 100 44 = N) (h45 : S 100 45 ≤ N) (hL : L = abM W i N) (eW : ∀ r : Nat, r < N → W 246 r = S 246 r ∧ W 247 r = S 247 r) (d0 : T 100 45 = S 100 45) (d1 : T 100 44 = ((N + L.length : Nat) : Int)) (d2 : ∀ r : Int, ¬ ((N : Int) ≤ r ∧ r < N + L.length) → T 246 r = S 246 r ∧ T 247 r = S 247 r) (d4 : ∀ (j : Nat) x, L[j]? = some x → T 246 ((N + j : Nat) : Int) = x.1 ∧ T 247 ((N + j : Nat) : Int) = x.2.1) : AbB T := fun r r0 r1 r2 => by
  rw [d0] at r0
  rw [d1] at r1
  by_cases y : r < N
  · obtain ⟨a, b⟩ := d2 r (by omega)
    rw [a] at r2
    rw [b, un_same r (fun p hp => d2 p (by omega)), nUn_of (fun p hp => d2 p (by omega))]
    exact h r r0 (by rw [s44]; omega) r2
  · obtain ⟨m, hm⟩ : ∃ m, r = N + m := ⟨r - N, by omega⟩
    subst hm
    have lm : m < L.length := by omega
    obtain ⟨x, hx⟩ : ∃ x, L[m]? = some x := ⟨_, List.getElem?_eq_getElem lm⟩
    obtain ⟨a, b⟩ := d4 m x hx
    rw [a] at r2
    have len : L.length = (unM W i N).length + 1 := by rw [hL]; unfold abM; rw [List.length_append]; rfl
    have own : ∀ (j : Nat) z, L[j]? = some z → z.2.1 = i := fun j z hz => (abM_mem (by rw [← hL]; exact List.mem_of_getElem? hz)).2
    have low : ∀ (j : Nat) z, j < (unM W i N).length → L[j]? = some z → z.1 = 2 := fun j z hj hz => by
      rw [hL] at hz
      unfold abM at hz
      rw [List.getElem?_append_left hj] at hz
      exact unM_kind N (List.mem_of_getElem? hz)
    have em : m = (unM W i N).length := by
      by_cases z : m < (unM W i N).length
      · have := low m x z hx
        omega
      · omega
    rw [b, own m x hx]
    have w1 : (unM T i (N + m)).length ≤ (unM W i N).length := by
      have gen : ∀ p : Nat, p ≤ m → (unM T i (N + p)).length = (unM W i N).length := fun p => by
        induction p with
        | zero =>
          intro _
          exact un_same N (fun r hr => by
            have := d2 r (by omega)
            have w := eW r hr
            rw [this.1, this.2, w.1, w.2]
            exact ⟨rfl, rfl⟩)
        | succ p ih =>
          intro hp
          have e : unM T i (N + p + 1) = unM T i (N + p) := if_neg (fun z => by
            obtain ⟨u, hu⟩ : ∃ u, L[p]? = some u := ⟨_, List.getElem?_eq_getElem (by omega)⟩
            have := low p u (by omega) hu
            have := (d4 p u hu).1
            omega)
          show (unM T i (N + p + 1)).length = _
          rw [e]; exact ih (by omega)
      exact Nat.le_of_eq (gen m (Nat.le_refl _))
    have w2 : (m : Int) ≤ cntI (mUnG T i) (N + m) := cnt_run N m (fun j hj => by
      obtain ⟨u, hu⟩ : ∃ u, L[j]? = some u := ⟨_, List.getElem?_eq_getElem (by omega)⟩
      have c := d4 j u hu
      unfold mUnG
      rw [c.1, c.2]
      exact ⟨low j u (by omega) hu, own j u hu⟩)
    unfold nUn
    omega
end
