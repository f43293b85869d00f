/-- room for more is room for less -/
theorem rm_less {s : State} {pl : Platform} {r r' : Room} (hf : r.frames ≤ r'.frames) (hl : r.locals ≤ r'.locals) (hc : r.cells ≤ r'.cells) (hs : r.slots ≤ r'.slots) (h : s.hasRoom pl r' = true) : s.hasRoom pl r = true := by
  simp only [State.hasRoom, Bool.and_eq_true, decide_eq_true_eq] at h ⊢
  obtain ⟨⟨⟨⟨y, a, b, c, d, e⟩, f⟩, g⟩, i⟩ := h
  exact ⟨⟨⟨⟨by omega, by omega, by omega, by omega, by omega, e⟩, by omega⟩, by omega⟩, i⟩
theorem mf_room {l : Launch} {y : MethodName} {ws : List Cond} {R R' : Room} {Pc : Array Value → State → Prop} {Kc : Program → Env → List Frame → State → Array Value → Prop} {Qc : Array Value → State → Outcome → State → Prop}
    (h : MetFree l y (headSpec ws R) Pc Kc Qc) (hf : R.frames ≤ R'.frames) (hl : R.locals ≤ R'.locals) (hc : R.cells ≤ R'.cells) (hs : R.slots ≤ R'.slots) : MetFree l y (headSpec ws R') Pc Kc Qc := by
  intro p e ha hcs hk s m args below hfr happ hP hK
  obtain ⟨a1, a2, a3, a4, a5, a6, a7, a8⟩ := (Spec.appliesLoose_iff hfr).mp happ
  exact h p e ha hcs hk s m args below hfr ((Spec.appliesLoose_iff hfr).mpr ⟨a1, a2, a3, a4, a5, a6, rm_less hf hl hc hs a7, a8⟩) hP hK
/-! a contract holds in a larger room -/
theorem Sp.room {M : MD} {x : Bool} {R R' : Room} {Q : PQ} {K : KT} {P : PT} {J I : IT} {as : List AV} (h : Sp M x R Q K P J I as) (hf : R.frames ≤ R'.frames) (hl : R.locals ≤ R'.locals) (hc : R.cells ≤ R'.cells) (hs : R.slots ≤ R'.slots) : Sp M x R' Q K P J I as := by
  intro l hst D ad dom sz hwf hws
  have h0 := h l hst D ad dom sz hwf hws
  cases x with
  | false =>
    have h1 := mf_room (R' := R') (show MetFree l M.1 (headSpec (wsM M) R) _ _ _ from h0) hf hl hc hs
    intro p e ha hc' hk s m args below hs' happ hP _
    obtain ⟨n, o, h1, h2, h3, h4, L, h5, h6⟩ := h1 p e ha hc' hk s m args below hs' happ hP trivial
    exact ⟨n, o, h1, h2, h3, h4, L, ⟨h5.1, h5.2.1, h5.2.2.mono hc hs⟩, h6⟩
  | true =>
    have h1 := mf_room (R' := R') (show MetFree l M.1 (headSpec (wsM M) R) _ _ _ from h0) hf hl hc hs
    intro p e ha hc' hk s m args below hs' happ hP _
    obtain ⟨n, o, h1, h2, h3, h4⟩ := h1 p e ha hc' hk s m args below hs' happ hP trivial
    refine ⟨n, o, h1, h2, h3, ?_⟩
    rcases h4 with ⟨h4, L, h5, h6⟩ | ⟨q, h4, E, ce, L, h5, h6, h7, h8, h9, h10, h11⟩
    · exact Or.inl ⟨h4, L, ⟨h5.1, h5.2.1, h5.2.2.mono hc hs⟩, h6⟩
    · exact Or.inr ⟨q, h4, E, ce, L, h5, h6, h7, h8, h9, h10.mono hc hs, h11⟩
section
variable {K : KT} {P : PT} {J I : IT}
/-- how long the array of a list is at a level, and its name -/
def lcp : Nat → Nat
  | 0 => 0
  | 1 => 10
  | l + 2 => lcp (l + 1) + lcp (l + 1) / 2
def ldn (b l : Nat) : Nat := if l = 0 then 999 else b + l
/-- slots that growth has taken -/
def pl : Nat → Nat
  | 0 => 0
  | l + 1 => pl l + lcp (l + 1)
theorem lcp_b : ∀ l, l < 12 → lcp l ≤ 1000 ∧ (lcp l < 73 → l < 6) ∧ (l ≠ 0 → 10 ≤ lcp l) := by decide
theorem lcp_up : ∀ l, l ≠ 0 → lcp (l + 1) = lcp l + lcp l / 2 := by
  intro l h
  cases l with
  | zero => exact absurd rfl h
  | succ l => rfl
/-- a list of m things of class ci -/
def LsV (K : KT) (P : PT) (I : IT) (o b l m ci : Nat) : Prop := AlW K P o (ldn b l) (lcp l) ∧ (∀ j, l < j → j < 20 → K (b + j) = none) ∧ l < 12 ∧ (I o 2 = m ∧ m ≤ lcp l ∧ I o 0 = m) ∧ ∀ i q, 0 ≤ i → i < (m : Int) → P (ldn b l) i = some q → ∃ z, K q = some (ci, z)
def lsN (b o q : Nat) : Prop := q = o ∨ (b < q ∧ q < b + 20)
theorem ldn_in {b l : Nat} (h : l ≠ 0) : ldn b l = b + l := if_neg h
theorem cpyP_in {A B n : Nat} {i : Int} (h : 0 ≤ i ∧ i < n) : cpyP P A 0 B 0 n B i = P A i := by
  unfold cpyP
  rw [if_pos ⟨rfl, h.1, by omega⟩]
  congr 1; omega
theorem cpyP_o {A B n q : Nat} (h : q ≠ B) : cpyP P A 0 B 0 n q = P q := funext (fun i => if_neg (fun z => h z.1))
theorem list_add {o b l m ci e ze NN : Nat} {C : String} {T : u_T} (h : LsV K P I o b l m ci) (he : K e = some (ci, ze)) (hc : classes[ci]? = some (C, T, NN)) (hca : (C, "java/lang/Object") ∈ NC) (hm : m < 73) (ho : ¬ (b < o ∧ o < b + 20)) (h9 : ¬ (b < 999 ∧ 999 < b + 20)) (o9 : o ≠ 999) (hx : ∀ j i, l < j → j < 20 → P (b + j) i = none) :
    ∃ (l' c n : Nat) (K' : KT) (P' : PT) (I' : IT), LsV K' P' I' o b l' (m + 1) ci ∧ Fr (lsN b o) K P I K' P' I' ∧ (∀ q, K q ≠ none → K' q = K q) ∧ (c + l = l' ∧ n + pl l = pl l') ∧ (∀ i : Int, 0 ≤ i → i < m → P' (ldn b l') i = P (ldn b l) i) ∧ P' (ldn b l') (m : Int) = some e ∧ (∀ q, q ≠ o → I' q = I q) ∧ I' o 1 = I o 1 ∧ (∀ j i, l' < j → j < 20 → P' (b + j) i = none) ∧
      Sp m_java_util_ArrayList_add false ({ frames := 6, cells := c, slots := n, locals := 280 } : Room) (ex K' P' J I' (.inl (some (vI 1)))) K P J I [vR (some o), vR (some e)] := by
  obtain ⟨hA, hF, hl, ⟨hs, hle, h0⟩, hel⟩ := h
  have hb := lcp_b l hl
  have hm' : 0 ≤ I o 0 ∧ I o 0 < 100000 := by rw [h0]; omega
  have nod : o ≠ ldn b l := fun z => by have := hA.1.symm.trans (z ▸ hA.2.2); cases this
  have neq : ∀ j, l < j → j < 20 → ∀ {q z y : Nat}, K q = some (z, y) → q ≠ b + j := fun j j1 j2 q z y h1 h2 => by rw [h2, hF j j1 j2] at h1; cases h1
  have I1 : ∀ z : Int, z ≠ 0 → z ≠ 2 → up2 (up2 I o 0 (I o 0 + 1)) o 2 (I o 2 + 1) o z = I o z := fun z z1 z2 => (up2_k _ _ _ _ z2).trans (up2_k _ _ _ _ z1)
  have Io : ∀ q, q ≠ o → up2 (up2 I o 0 (I o 0 + 1)) o 2 (I o 2 + 1) q = I q := fun q hq => funext (fun z => (up2_o _ _ _ _ hq).trans (up2_o _ _ _ _ hq))
  have I2 : up2 (up2 I o 0 (I o 0 + 1)) o 2 (I o 2 + 1) o 2 = ((m + 1 : Nat) : Int) := (up2_eq _ _ _ _).trans (by rw [hs]; omega)
  have I0 : up2 (up2 I o 0 (I o 0 + 1)) o 2 (I o 2 + 1) o 0 = ((m + 1 : Nat) : Int) := (up2_k _ _ _ _ (by decide)).trans ((up2_eq _ _ _ _).trans (by rw [h0]; omega))
  by_cases hfull : m < lcp l
  · have l0 : l ≠ 0 := fun z => by rw [z] at hfull; exact absurd hfull (Nat.not_lt_zero _)
    have ed := ldn_in (b := b) l0
    have P0 : ∀ q, q ≠ ldn b l → up2 P (ldn b l) (I o 2) (some e) q = P q := fun q hq => funext (fun z => up2_o _ _ _ _ hq)
    have sp := sp_add_in (J := J) hA he hc hca (by rw [hs]; omega) hm'
    refine ⟨l, 0, 0, K, _, _, ⟨⟨hA.1, (congrFun (P0 o nod) 1).trans hA.2.1, hA.2.2⟩, hF, hl, ⟨I2, by omega, I0⟩, fun i q i0 i1 hq => ?_⟩, fun q hq => ⟨rfl, P0 q (fun z => hq (Or.inr (by omega))), Io q (fun z => hq (Or.inl z))⟩, fun _ _ => rfl, ⟨by omega, by omega⟩, fun i i0 hi => up2_k _ _ _ _ (by omega), ?_, Io, I1 1 (by decide) (by decide), fun j i j1 j2 => (congrFun (P0 _ (by omega)) i).trans (hx j i j1 j2), Sp.room sp (by decide) (by decide) (Nat.le_refl _) (Nat.le_refl _)⟩
    · by_cases hi : i = I o 2
      · subst hi
        rw [up2_eq] at hq
        exact ⟨ze, by rw [← Option.some.inj hq]; exact he⟩
      · rw [up2_k _ _ _ _ hi] at hq
        exact hel i q i0 (by rw [hs] at hi; omega) hq
    · rw [hs]; exact up2_eq _ _ _ _
  · have em : m = lcp l := by omega
    have hl6 : l < 6 := hb.2.1 (by omega)
    have hq : K (b + (l + 1)) = none := hF (l + 1) (by omega) (by omega)
    have en : ldn b (l + 1) = b + (l + 1) := ldn_in (by omega)
    have noq : o ≠ b + (l + 1) := neq _ (by omega) (by omega) hA.1
    have neqe : e ≠ b + (l + 1) := neq _ (by omega) (by omega) he
    have k1 : ∀ (N : Nat) q, K q ≠ none → upK K (b + (l + 1)) (104, N) q = K q := fun N q h => upK_o _ _ (fun z => h (by rw [z, hq]))
    have fin : ∀ (P1 : PT), (∀ q, q ≠ o → q ≠ b + (l + 1) → P1 q = P q) → P1 o 1 = some (b + (l + 1)) → (∀ i : Int, 0 ≤ i → i < m → P1 (b + (l + 1)) i = P (ldn b l) i) → P1 (b + (l + 1)) (m : Int) = some e → (∀ i q, 0 ≤ i → i < ((m + 1 : Nat) : Int) → P1 (b + (l + 1)) i = some q → ∃ z, K q = some (ci, z)) →
        LsV (upK K (b + (l + 1)) (104, lcp (l + 1))) P1 (up2 (up2 I o 0 (I o 0 + 1)) o 2 (I o 2 + 1)) o b (l + 1) (m + 1) ci ∧ Fr (lsN b o) K P I (upK K (b + (l + 1)) (104, lcp (l + 1))) P1 (up2 (up2 I o 0 (I o 0 + 1)) o 2 (I o 2 + 1)) ∧ (∀ j i, l + 1 < j → j < 20 → P1 (b + j) i = none) := by
      intro P1 p1 p2 p3 p4 p5
      refine ⟨⟨⟨(k1 _ _ (by rw [hA.1]; simp)).trans hA.1, by rw [en]; exact p2, by rw [en]; exact upK_eq _ _ _⟩, fun j j1 j2 => (upK_o _ _ (by omega)).trans (hF j (by omega) j2), by omega, ⟨I2, ?_, I0⟩, fun i q i0 i1 hq2 => ?_⟩, fun q hq2 => ⟨upK_o _ _ (fun z => hq2 (Or.inr (by omega))), p1 q (fun z => hq2 (Or.inl z)) (fun z => hq2 (Or.inr (by omega))), Io q (fun z => hq2 (Or.inl z))⟩, fun j i j1 j2 => (congrFun (p1 _ (fun z => ho (by omega)) (by omega)) i).trans (hx j i (by omega) j2)⟩
      · by_cases l0 : l = 0
        · subst l0
          rw [em]; decide
        · have := hb.2.2 l0
          rw [lcp_up l l0]; omega
      · rw [en] at hq2
        obtain ⟨z, hz⟩ := p5 i q i0 i1 hq2
        exact ⟨z, (k1 _ _ (by rw [hz]; simp)).trans hz⟩
    by_cases l0 : l = 0
    · subst l0
      have m0 : m = 0 := em
      have hA' : AlW K P o 999 0 := hA
      have sp := sp_add0 (J := J) (q := b + (0 + 1)) hq hA' he hc hca (by rw [hs, m0]; rfl) hm'
      rw [show (0 : Int) + 1 = I o 2 + 1 by rw [hs, m0]; rfl] at sp
      have nx : ∀ i, P (b + (0 + 1)) i = none := fun i => hx 1 i (by decide) (by decide)
      obtain ⟨f1, f2, f3⟩ := fin (up2 (up2 P o 1 (some (b + (0 + 1)))) (b + (0 + 1)) 0 (some e)) (fun q q1 q2 => funext (fun z => (up2_o _ _ _ _ q2).trans (up2_o _ _ _ _ q1))) ((up2_o _ _ _ _ noq).trans (up2_eq _ _ _ _)) (fun i i0 hi => by omega) (by rw [m0]; exact up2_eq _ _ _ _) (fun i q i0 i1 hq2 => by
        by_cases hi : i = 0
        · subst hi
          rw [up2_eq] at hq2
          exact ⟨ze, by rw [← Option.some.inj hq2]; exact he⟩
        · rw [up2_k _ _ _ _ hi, up2_o _ _ _ _ noq.symm, nx] at hq2
          cases hq2)
      refine ⟨1, 1, 10, _, _, _, f1, f2, k1 _, ⟨rfl, rfl⟩, fun i i0 hi => by omega, ?_, Io, I1 1 (by decide) (by decide), f3, Sp.room sp (by decide) (by decide) (Nat.le_refl _) (Nat.le_refl _)⟩
      rw [en, m0]; exact up2_eq _ _ _ _
    · have h10 := hb.2.2 l0
      have ndn : ldn b l ≠ b + (l + 1) := neq _ (by omega) (by omega) hA.2.2
      have sp := sp_add1 (J := J) (q := b + (l + 1)) (N := lcp (l + 1)) hq hA (by omega) (lcp_up l l0) hc hca (fun i q i0 i1 hq => hel i q i0 (by rw [em]; exact i1) hq) he (by rw [hs, em]) hm'
      rw [show ((lcp l : Nat) : Int) + 1 = I o 2 + 1 by rw [hs, em]] at sp
      have nx : ∀ i, P (b + (l + 1)) i = none := fun i => hx (l + 1) i (by omega) (by omega)
      have pn : ∀ i : Int, i ≠ (lcp l : Nat) → up2 (up2 (cpyP P (ldn b l) 0 (b + (l + 1)) 0 (lcp l)) o 1 (some (b + (l + 1)))) (b + (l + 1)) ((lcp l : Nat) : Int) (some e) (b + (l + 1)) i = cpyP P (ldn b l) 0 (b + (l + 1)) 0 (lcp l) (b + (l + 1)) i := fun i hi => (up2_k _ _ _ _ hi).trans (up2_o _ _ _ _ noq.symm)
      obtain ⟨f1, f2, f3⟩ := fin (up2 (up2 (cpyP P (ldn b l) 0 (b + (l + 1)) 0 (lcp l)) o 1 (some (b + (l + 1)))) (b + (l + 1)) ((lcp l : Nat) : Int) (some e)) (fun q q1 q2 => (funext (fun z => (up2_o _ _ _ _ q2).trans (up2_o _ _ _ _ q1))).trans (cpyP_o q2)) ((up2_o _ _ _ _ noq).trans (up2_eq _ _ _ _)) (fun i i0 hi => (pn i (by omega)).trans (cpyP_in ⟨i0, by omega⟩)) (by rw [em]; exact up2_eq _ _ _ _) (fun i q i0 i1 hq2 => by
        by_cases hi : i = (lcp l : Nat)
        · subst hi
          rw [up2_eq] at hq2
          exact ⟨ze, by rw [← Option.some.inj hq2]; exact he⟩
        · rw [pn i hi] at hq2
          by_cases h2 : 0 ≤ i ∧ i < (lcp l : Nat)
          · rw [cpyP_in h2] at hq2
            exact hel i q i0 (by omega) hq2
          · have : cpyP P (ldn b l) 0 (b + (l + 1)) 0 (lcp l) (b + (l + 1)) i = P (b + (l + 1)) i := if_neg (fun z => h2 ⟨z.2.1, by omega⟩)
            rw [this, nx] at hq2
            cases hq2)
      refine ⟨l + 1, 1, lcp (l + 1), _, _, _, f1, f2, k1 _, ⟨by omega, Nat.add_comm _ _⟩, fun i i0 hi => by rw [en]; exact (pn i (by omega)).trans (cpyP_in ⟨i0, by omega⟩), ?_, Io, I1 1 (by decide) (by decide), f3, Sp.room sp (Nat.le_refl _) (Nat.le_refl _) (Nat.le_refl _) (Nat.le_refl _)⟩
      rw [en, em]; exact up2_eq _ _ _ _
end
