section
variable {M : MD} {R : Room} {Q : PQ} {K K1 : KT} {P P1 : PT} {J I J1 I1 : IT} {cs n pc pc' j : Nat} {L : List (Nat × AV)} {S St as : List AV} {My : MD} {Ry : Room} {Qy : PQ} {x : Bool}
theorem VW.cSNq {k : Nat} {host : String} (d : decode M.2.1 pc = .ok (.invokestatic j, 3)) (hp : pc + 3 = pc') (hm : MS My k) (hl : (M.1.cls, j, My.1, host) ∈ NB) (h8 : Nat.ble (sl S) 8 = true) (hR1 : Nat.ble (Ry.frames + 1) R.frames = true) (hR2 : Nat.ble (8 + (My.2.2.1 + 11) + Ry.locals) R.locals = true) (hcs : cs + Ry.cells ≤ R.cells) (hn : n + Ry.slots ≤ R.slots) (hs : Sp My false Ry Qy K P J I as) (hst : St = as.reverse ++ S) (hk : as.length = k)
    (kk : ∀ (r : Option AV) (K' : KT) (P' : PT) (J' I' : IT), Qy (.inl r) K' P' J' I' → VW M x R Q K' P' J' I' (cs + Ry.cells) (n + Ry.slots) pc' L (r.toList ++ S)) : VW M x R Q K P J I cs n pc L St :=
  VW.callSN d hp hs hst hm.1 hm.2.1 hk hm.2.2 hl h8 hR1 hR2 hcs hn kk
theorem VW.cINq {o k : Nat} {host : String} (d : decode M.2.1 pc = .ok (.invokespecial j, 3)) (hp : pc + 3 = pc') (hm : MI My k) (hl : (M.1.cls, j, My.1, host) ∈ NB) (h8 : Nat.ble (sl S) 8 = true) (hR1 : Nat.ble (Ry.frames + 1) R.frames = true) (hR2 : Nat.ble (8 + (My.2.2.1 + 11) + Ry.locals) R.locals = true) (hcs : cs + Ry.cells ≤ R.cells) (hn : n + Ry.slots ≤ R.slots) (hs : Sp My false Ry Qy K P J I (vR (some o) :: as)) (hst : St = as.reverse ++ vR (some o) :: S) (hk : as.length = k)
    (kk : ∀ (r : Option AV) (K' : KT) (P' : PT) (J' I' : IT), Qy (.inl r) K' P' J' I' → VW M x R Q K' P' J' I' (cs + Ry.cells) (n + Ry.slots) pc' L (r.toList ++ S)) : VW M x R Q K P J I cs n pc L St :=
  VW.callIN d hp hs hst hm.1 hm.2.1 hk hm.2.2.1 hm.2.2.2.1 hm.2.2.2.2 hl h8 hR1 hR2 hcs hn kk
end
section
variable {K : KT} {P : PT} {J I : IT}
theorem QuW.of {P' : PT} {q : Nat} (h : QuW K P q) (e : P' q = P q) : QuW K P' q := by
  unfold QuW at h ⊢
  rw [e]; exact h
theorem ScW.of {P' : PT} {s w c d t r v : Nat} (h : ScW K P s w c d t r v) (e : P' s = P s) : ScW K P' s w c d t r v := by
  unfold ScW at h ⊢
  rw [e]; exact h
theorem RwW.of {P' : PT} {r a : Nat} (h : RwW K P r a) (e : P' r = P r) : RwW K P' r a := by
  unfold RwW at h ⊢
  rw [e]; exact h
theorem EvA.of {P' : PT} {v s od sp mm : Nat} (h : EvA K P v s od sp mm) (e : P' v = P v) : EvA K P' v s od sp mm := by
  unfold EvA at h ⊢
  rw [e]; exact h
theorem scanC_of {T : IT} {s vv a : Nat} {y t : Int} {w : Nat} (h1 : T s = I s) (h2 : T vv = I vv) (h3 : T a = I a) : ∀ n : Nat, scanC T s vv a y t w n = scanC I s vv a y t w n := by
  intro n
  induction n with
  | zero => rfl
  | succ n ih =>
    have e1 : scPl T s vv a y t n = scPl I s vv a y t n := by
      unfold scPl scSee scHid
      rw [h1, h2, h3]
    have e2 : rowAt T a ((t * 8 + n) * 4) w = rowAt I a ((t * 8 + n) * 4) w := rowAt_congr (fun c _ _ => by rw [h3])
    show (if bI (scPl T s vv a y t n) = 1 then _ else _) = (if bI (scPl I s vv a y t n) = 1 then _ else _)
    rw [e1, e2, ih]
theorem scC_of {T : IT} {s wi vv a : Nat} {y : Int} (h1 : T s = I s) (h2 : T vv = I vv) (h3 : T a = I a) (h4 : T wi = I wi) : scC T s wi vv a y = scC I s wi vv a y := by
  funext t
  unfold scC
  rw [h4, scanC_of h1 h2 h3]
/-- the class's results after k operators of the query qn -/
noncomputable def evC (I : IT) (s wi vv a : Nat) (y : Int) (qn : Nat) : Nat → STK
  | 0 => []
  | k + 1 => ev1 (scC I s wi vv a y) (I (qn + 3) (k : Int)) (I (qn + 4) ((k : Int) * 4 + 0)) (I (qn + 4) ((k : Int) * 4 + 1)) (I (qn + 4) ((k : Int) * 4 + 2)) (I (qn + 4) ((k : Int) * 4 + 3)) (evC I s wi vv a y qn k)
def evCF (I : IT) (s wi vv a : Nat) (y : Int) (qn : Nat) : Nat → Prop
  | 0 => False
  | k + 1 => evCF I s wi vv a y qn k ∨ ev1F (I (qn + 3) (k : Int)) (I (qn + 4) ((k : Int) * 4 + 0)) (I (qn + 4) ((k : Int) * 4 + 1)) (evC I s wi vv a y qn k)
theorem evCF_up {s wi vv a qn : Nat} {y : Int} {k : Nat} (h : evCF I s wi vv a y qn k) : ∀ l : Nat, evCF I s wi vv a y qn (k + l) := by
  intro l
  induction l with
  | zero => exact h
  | succ l ih => exact Or.inl ih
/-- a query that the class can evaluate -/
def EcOK (I : IT) (s wi vv a : Nat) (y : Int) (qn n w : Nat) (L : List (List Int)) : Prop :=
  (I qn 0 = n ∧ n ≤ 12) ∧ (∀ k : Nat, k < n → okC (I (qn + 3) (k : Int)) (I (qn + 4) ((k : Int) * 4 + 0)) (I (qn + 4) ((k : Int) * 4 + 1)) (I (qn + 4) ((k : Int) * 4 + 2)) (I (qn + 5) (k : Int)) (evC I s wi vv a y qn k) ∧ (I (qn + 3) (k : Int) = 0 → I (qn + 5) (k : Int) = I wi (I (qn + 4) ((k : Int) * 4 + 0)) ∧ 0 ≤ I (qn + 5) (k : Int) ∧ I (qn + 5) (k : Int) ≤ 4) ∧ (I (qn + 3) (k : Int) = 0 ∨ (I (qn + 3) (k : Int) = 1 ∨ I (qn + 3) (k : Int) = 2 ∨ I (qn + 3) (k : Int) = 3 ∨ I (qn + 3) (k : Int) = 5 ∨ I (qn + 3) (k : Int) = 6) ∨ I (qn + 3) (k : Int) = 4 ∨ I (qn + 3) (k : Int) = 7)) ∧
  (∀ k : Nat, k ≤ n → stB (evC I s wi vv a y qn k) ∧ (evC I s wi vv a y qn k).length ≤ 3) ∧ evC I s wi vv a y qn n = [(w, L)]
/-- k operators are done -/
def EcI (K : KT) (P0 : PT) (I T : IT) (v sk s mm wi vv a qn : Nat) (y : Int) (Wn : Nat → Prop) (k : Nat) (P' : PT) (e : Nat → Nat) : Prop :=
  (StW K P' v sk e ∧ ∀ i : Nat, i < 4 → Wn (e i) ∧ Wn (e i + 1)) ∧ (StkC T e (evC I s wi vv a y qn k) ∧ T v 5 = (evC I s wi vv a y qn k).length ∧ T v 6 = bI (evCF I s wi vv a y qn k)) ∧ (∀ q, q ≠ v → q ≠ mm → ¬ Wn q → T q = I q) ∧ ∀ q, q ≠ sk → P' q = P0 q
/-- rows in the order of their numbers -/
theorem ordered {T T2 : IT} {c od w m : Nat} {L : List (List Int)} (hl : m = L.length) (hR : seg T c 0 w L.length = L) (hp : (rowAt T2 od 0 m).Perm (idsL m)) (hr : ∀ i j : Nat, i < j → j < m → rle (rwN T c w (T2 od i)) (rwN T c w (T2 od j))) : ((rowAt T2 od 0 m).map (rwN T c w)).Perm L ∧ Ris ((rowAt T2 od 0 m).map (rwN T c w)) := by
  subst hl
  constructor
  · refine (hp.map (rwN T c w)).trans ?_
    have : (idsL L.length).map (rwN T c w) = seg T c 0 w L.length := by
      unfold idsL seg
      rw [List.map_map]
      apply List.map_congr_left
      intro k _
      show rwN T c w (k : Int) = _
      unfold rwN
      rw [Int.zero_add, Int.mul_comm]
    rw [this, hR]
  · unfold Ris
    rw [List.pairwise_map, List.pairwise_iff_getElem]
    intro i j hi hj hij
    have li : (rowAt T2 od 0 L.length).length = L.length := rowAt_len
    have g : ∀ (z : Nat) (hz : z < (rowAt T2 od 0 L.length).length), (rowAt T2 od 0 L.length)[z] = T2 od z := fun z hz => by
      have := row_get (T := T2) (a := od) (b := 0) (n := L.length) (j := z) (by omega)
      rw [List.getElem?_eq_getElem hz, Int.zero_add] at this
      exact Option.some.inj this
    rw [g i hi, g j hj]
    exact hr i j hij (by omega)
theorem map_snoc {T2 : IT} {f : Int → List Int} {od k : Nat} : (rowAt T2 od 0 (k + 1)).map f = (rowAt T2 od 0 k).map f ++ [f (T2 od k)] := by
  unfold rowAt
  rw [List.range_succ, List.map_append, List.map_append]
  simp
theorem StkC.one {e : Nat → Nat} {w : Nat} {L : List (List Int)} (h : StkC I e [(w, L)]) : RelR I (e 0) (e 0 + 1) w L := h.1
theorem ev_end {v sk s od sp mm wi ck dt tg ru vv r a qn n w : Nat} {e : Nat → Nat} {Wn : Nat → Prop} {y : Int} {L : List (List Int)} (hw : SpW K P I v sk s od sp mm wi ck dt tg ru vv r a qn e Wn) (hWk : ∀ q, Wn q → K q = some (5, 0) ∨ K q = some (100, 5120)) (hos : od ≠ sp) (hE : EcOK I s wi vv a y qn n w L) {P' : PT} {T : IT} {e2 : Nat → Nat} (h : EcI K P I T v sk s mm wi vv a qn y Wn n P' e2) : VW m_Evaluator_evaluate false (rmv 7 280) (fun r' K' P' J' I' => K' = K ∧ J' = J ∧ (∃ e', (StW K P' v sk e' ∧ ∀ i : Nat, i < 4 → Wn (e' i) ∧ Wn (e' i + 1)) ∧ ((evCF I s wi vv a y qn n ∧ r' = .inl (some (vR none))) ∨ (¬ evCF I s wi vv a y qn n ∧ ∃ M, r' = .inl (some (vR (some (e' 1)))) ∧ RelR I' (e' 1) (e' 1 + 1) w M ∧ M.Perm L ∧ Ris M))) ∧ (∀ q, q ≠ v → q ≠ mm → q ≠ od → q ≠ sp → ¬ Wn q → I' q = I q) ∧ ∀ q, q ≠ sk → P' q = P q : PQ) K P' J T 0 0 44 [(0, vR (some v)), (1, vR (some qn)), (2, vR (some r)), (3, vI y)] [] := by
  obtain ⟨⟨hS, hW, hWn⟩, hA, hG, hRw, hQ, hc, hd⟩ := id hw
  obtain ⟨⟨hn0, hn⟩, hok, hst, hend⟩ := id hE
  obtain ⟨v0, ⟨v2, v2k⟩, ⟨v3, v3k⟩, v4, v4k⟩ := id hA
  have s1 := hS.1
  have s3 := hS.2.2.1
  have nW : ∀ q m z, K q = some (m, z) → (m ≠ 5 ∧ (m = 100 → z ≠ 5120)) → ¬ Wn q := fun q m z h1 h2 h3 => by
    rcases hWk q h3 with g | g
    · have := Option.some.inj (h1.symm.trans g); exact h2.1 (congrArg Prod.fst this)
    · have := Option.some.inj (h1.symm.trans g); exact h2.2 (congrArg Prod.fst this) (congrArg Prod.snd this)
  have nk : ∀ {q m z : Nat} {p m2 z2 : Nat}, K q = some (m, z) → K p = some (m2, z2) → (m ≠ m2 ∨ z ≠ z2) → q ≠ p := fun h1 h2 h3 h4 => by
    have := Option.some.inj (h1.symm.trans (h4 ▸ h2))
    rcases h3 with h3 | h3
    · exact h3 (congrArg Prod.fst this)
    · exact h3 (congrArg Prod.snd this)
  have nv : ∀ {q m z : Nat}, K q = some (m, z) → m ≠ 1 → q ≠ v := fun h1 h2 => nk h1 s1 (Or.inl h2)
  have nm : ∀ {q m z : Nat}, K q = some (m, z) → m ≠ 101 → q ≠ mm := fun h1 h2 => nk h1 v4k (Or.inl h2)
  have ns : ∀ {q m z : Nat}, K q = some (m, z) → m ≠ 103 → q ≠ sk := fun h1 h2 => nk h1 s3 (Or.inl h2)
  obtain ⟨⟨g1, g2⟩, ⟨g3, g4, g5⟩, g6, g7⟩ := h
  rw [hend] at g3 g4
  have hA2 := hA.of (P' := P') (g7 v (ns s1 (by decide)))
  obtain ⟨v0, ⟨v2, v2k⟩, ⟨v3, v3k⟩, v4, v4k⟩ := hA2
  by_cases hF : evCF I s wi vv a y qn n
  · have h6 : T v 6 = 1 := by rw [g5, bI1 hF]
    have fin : (fun r' K' P' J' I' => K' = K ∧ J' = J ∧ (∃ e', (StW K P' v sk e' ∧ ∀ i : Nat, i < 4 → Wn (e' i) ∧ Wn (e' i + 1)) ∧ ((evCF I s wi vv a y qn n ∧ r' = .inl (some (vR none))) ∨ (¬ evCF I s wi vv a y qn n ∧ ∃ M, r' = .inl (some (vR (some (e' 1)))) ∧ RelR I' (e' 1) (e' 1 + 1) w M ∧ M.Perm L ∧ Ris M))) ∧ (∀ q, q ≠ v → q ≠ mm → q ≠ od → q ≠ sp → ¬ Wn q → I' q = I q) ∧ ∀ q, q ≠ sk → P' q = P q : PQ) (.inl (some (vR none))) K P' J T := ⟨rfl, rfl, ⟨e2, ⟨g1, g2⟩, Or.inl ⟨hF, rfl⟩⟩, fun q q1 q2 _ _ q5 => g6 q q1 q2 q5, g7⟩
    refine VW.aload_n (pc' := 45) d_Evaluator_evaluate_44 rfl rfl ?_
    refine VW.gI (ci := 1) (T := T1) (N := 7) (k := 6) (k' := 6) (pc' := 48) d_Evaluator_evaluate_45 rfl lk_Evaluator_37 in1 rfl rfl rfl rfl (by first | exact s1 | exact hQ.k | exact g1.2.2.1 | assumption) (by first | exact h6 | rfl) ?_
    refine VW.if_ne (tgt := 59) (pc' := 51) d_Evaluator_evaluate_48 rfl rfl (fun c48 => ?_) (fun c48 => ?_)
    case refine_2 => exact absurd c48 (by omega)
    refine VW.null (pc' := 60) d_Evaluator_evaluate_59 rfl ?_
    exact VW.aret d_Evaluator_evaluate_60 rfl (by first | exact Or.inl ⟨_, rfl⟩ | exact Or.inr ⟨_, rfl⟩) (Nat.zero_le _) (Nat.zero_le _) fin
  · have h6 : T v 6 = 0 := by rw [g5, bI0 hF]
    have h5 : T v 5 = 1 := g4
    obtain ⟨s1', t2, t3, t4, t5⟩ := id g1
    have r0 := t4 0 (by omega)
    have r1 := t4 1 (by omega)
    have hb := (hst n (Nat.le_refl _)).1
    rw [hend] at hb
    have hR : RelR T (e2 0) (e2 0 + 1) w L := g3.one
    have hL : L.length ≤ 512 := hb.1.2
    have ne01 := t5 0 1 (by omega) (by omega) (by omega)
    have n01 : e2 0 + 1 ≠ e2 1 := nk r0.2.2.2 r1.2.1 (Or.inl (by decide))
    have n10 : e2 1 + 1 ≠ e2 0 := nk r1.2.2.2 r0.2.1 (Or.inl (by decide))
    have no : ∀ {q m z : Nat}, K q = some (m, z) → (m ≠ 100 ∨ z ≠ 512) → q ≠ od := fun h1 h2 => nk h1 v2k h2
    have np : ∀ {q m z : Nat}, K q = some (m, z) → (m ≠ 100 ∨ z ≠ 512) → q ≠ sp := fun h1 h2 => nk h1 v3k h2
    have nx : ∀ (T2 : IT), (∀ q, q ≠ od → q ≠ sp → T2 q = T q) → (rowAt T2 od 0 L.length).Perm (idsL L.length) → (∀ i j : Nat, i < j → j < L.length → rle (rwN T (e2 0 + 1) w (T2 od i)) (rwN T (e2 0 + 1) w (T2 od j))) → VW m_Evaluator_evaluate false (rmv 7 280) (fun r' K' P' J' I' => K' = K ∧ J' = J ∧ (∃ e', (StW K P' v sk e' ∧ ∀ i : Nat, i < 4 → Wn (e' i) ∧ Wn (e' i + 1)) ∧ ((evCF I s wi vv a y qn n ∧ r' = .inl (some (vR none))) ∨ (¬ evCF I s wi vv a y qn n ∧ ∃ M, r' = .inl (some (vR (some (e' 1)))) ∧ RelR I' (e' 1) (e' 1 + 1) w M ∧ M.Perm L ∧ Ris M))) ∧ (∀ q, q ≠ v → q ≠ mm → q ≠ od → q ≠ sp → ¬ Wn q → I' q = I q) ∧ ∀ q, q ≠ sk → P' q = P q : PQ) K P' J T2 0 0 82 [(0, vR (some v)), (1, vR (some qn)), (2, vR (some r)), (3, vI y), (4, vR (some (e2 0)))] [] := by
      intro T2 f1 f2 f3
      have f0 : T2 (e2 0) = T (e2 0) := f1 _ (no r0.2.1 (Or.inl (by decide))) (np r0.2.1 (Or.inl (by decide)))
      have f0' : T2 (e2 0 + 1) = T (e2 0 + 1) := f1 _ (no r0.2.2.2 (Or.inr (by decide))) (np r0.2.2.2 (Or.inr (by decide)))
      obtain ⟨fA, fB⟩ := ordered rfl hR.2.2 f2 f3
      have hid : ∀ i : Nat, i < L.length → ∃ z : Nat, T2 od i = z ∧ z < L.length := fun i hi => or_id f2 i hi
      have loop : ∀ (l i : Nat) (S : IT), i + l = L.length → (∀ q, q ≠ e2 1 → q ≠ e2 1 + 1 → S q = T2 q) → RelR S (e2 1) (e2 1 + 1) w ((rowAt T2 od 0 i).map (rwN T (e2 0 + 1) w)) → VW m_Evaluator_evaluate false (rmv 7 280) (fun r' K' P' J' I' => K' = K ∧ J' = J ∧ (∃ e', (StW K P' v sk e' ∧ ∀ i : Nat, i < 4 → Wn (e' i) ∧ Wn (e' i + 1)) ∧ ((evCF I s wi vv a y qn n ∧ r' = .inl (some (vR none))) ∨ (¬ evCF I s wi vv a y qn n ∧ ∃ M, r' = .inl (some (vR (some (e' 1)))) ∧ RelR I' (e' 1) (e' 1 + 1) w M ∧ M.Perm L ∧ Ris M))) ∧ (∀ q, q ≠ v → q ≠ mm → q ≠ od → q ≠ sp → ¬ Wn q → I' q = I q) ∧ ∀ q, q ≠ sk → P' q = P q : PQ) K P' J S 0 0 99 [(0, vR (some v)), (1, vR (some qn)), (2, vR (some r)), (3, vI y), (4, vR (some (e2 0))), (5, vI (i : Int))] [] := by
        intro l
        induction l with
        | zero =>
          intro i S hi q1 q2
          have ei : i = L.length := by omega
          subst ei
          have z1 : S (e2 0) 1 = L.length := by rw [q1 _ ne01 n10.symm, f0]; exact hR.2.1
          have fin : (fun r' K' P' J' I' => K' = K ∧ J' = J ∧ (∃ e', (StW K P' v sk e' ∧ ∀ i : Nat, i < 4 → Wn (e' i) ∧ Wn (e' i + 1)) ∧ ((evCF I s wi vv a y qn n ∧ r' = .inl (some (vR none))) ∨ (¬ evCF I s wi vv a y qn n ∧ ∃ M, r' = .inl (some (vR (some (e' 1)))) ∧ RelR I' (e' 1) (e' 1 + 1) w M ∧ M.Perm L ∧ Ris M))) ∧ (∀ q, q ≠ v → q ≠ mm → q ≠ od → q ≠ sp → ¬ Wn q → I' q = I q) ∧ ∀ q, q ≠ sk → P' q = P q : PQ) (.inl (some (vR (some (e2 1))))) K P' J S := ⟨rfl, rfl, ⟨e2, ⟨g1, g2⟩, Or.inr ⟨hF, _, rfl, q2, fA, fB⟩⟩, fun q w1 w2 w3 w4 w5 => (q1 q (fun z => w5 (z ▸ (g2 1 (by omega)).1)) (fun z => w5 (z ▸ (g2 1 (by omega)).2))).trans ((f1 q w3 w4).trans (g6 q w1 w2 w5)), g7⟩
          refine VW.iload (pc' := 101) d_Evaluator_evaluate_99 rfl rfl ?_
          refine VW.aload (pc' := 103) d_Evaluator_evaluate_101 rfl rfl ?_
          refine VW.gI (ci := 5) (T := T5) (N := 3) (k := 1) (k' := 1) (pc' := 106) d_Evaluator_evaluate_103 rfl lk_Evaluator_61 in5 rfl rfl rfl rfl (by first | exact s1 | exact r0.2.1 | exact r1.2.1 | exact t3 | exact v2k | assumption) (by first | exact z1 | exact t2 | exact r1.1 | exact r0.1 | exact v2 | exact v3 | rfl) ?_
          refine VW.icmp_ge (tgt := 133) (pc' := 109) d_Evaluator_evaluate_106 rfl rfl (fun c106 => ?_) (fun c106 => ?_)
          · refine VW.aload_n (pc' := 134) d_Evaluator_evaluate_133 rfl rfl ?_
            refine VW.gP (ci := 1) (T := T1) (N := 7) (k := 1) (k' := 1) (pc' := 137) d_Evaluator_evaluate_134 rfl lk_Evaluator_11 in1 rfl rfl rfl rfl (by first | exact s1 | exact r0.2.1 | exact r1.2.1 | exact t3 | exact v2k | assumption) (by first | exact z1 | exact t2 | exact r1.1 | exact r0.1 | exact v2 | exact v3 | rfl) ?_
            refine VW.iconst (pc' := 138) d_Evaluator_evaluate_137 rfl (by decide) ?_
            refine VW.rld (pc' := 139) d_Evaluator_evaluate_138 rfl (by first | exact s1 | exact r0.2.1 | exact r1.2.1 | exact t3 | exact v2k | assumption) (by omega) (by omega) (by first | exact z1 | exact t2 | exact r1.1 | exact r0.1 | exact v2 | exact v3 | rfl) ?_
            exact VW.aret d_Evaluator_evaluate_139 rfl (by first | exact Or.inl ⟨_, rfl⟩ | exact Or.inr ⟨_, rfl⟩) (Nat.zero_le _) (Nat.zero_le _) fin
          · exfalso; omega
        | succ l ih =>
          intro i S hi q1 q2
          have z0 : S (e2 0) = T (e2 0) := (q1 _ ne01 n10.symm).trans f0
          have z0' : S (e2 0 + 1) = T (e2 0 + 1) := (q1 _ n01 (fun z => ne01 (Nat.succ.inj z))).trans f0'
          have zo : S od = T2 od := q1 _ (no r1.2.1 (Or.inl (by decide))).symm (no r1.2.2.2 (Or.inr (by decide))).symm
          have z1 : S (e2 0) 1 = L.length := by rw [z0]; exact hR.2.1
          have z2 : S (e2 0) 2 = w := by rw [z0]; exact hR.1
          obtain ⟨z, hz1, hz2⟩ := hid i (by omega)
          have ll : ((rowAt T2 od 0 i).map (rwN T (e2 0 + 1) w)).length = i := by rw [List.length_map, rowAt_len]
          have y1 : S (e2 1) 1 = i := by rw [q2.2.1, ll]
          have y2 : S (e2 1) 2 = w := q2.1
          have m1 := relMul (w := w) (m := i) hb.1.1 (by omega)
          have m2 := relMul (w := w) (m := z) hb.1.1 (by omega)
          have zov : S od i = z := by rw [zo]; exact hz1
          have ad := fun (S2 : IT) (w1 : S2 (e2 1) 2 = w) (w2 : S2 (e2 1) 1 = i + 1) (w3 : ∀ q : Int, 0 ≤ q → q < (w : Int) * (i : Int) → S2 (e2 1 + 1) q = S (e2 1 + 1) q) (w4 : rowAt S2 (e2 1 + 1) ((w : Int) * (i : Int)) w = rwN T (e2 0 + 1) w (z : Int)) => by
            have u := RelR.add (S := S2) (r := rwN T (e2 0 + 1) w (z : Int)) q2 w1 (by rw [ll]; exact w2) (by rw [ll]; exact w3) (by rw [ll]; exact w4)
            rw [show rwN T (e2 0 + 1) w (z : Int) = rwN T (e2 0 + 1) w (T2 od i) by rw [hz1], ← map_snoc] at u
            exact u
          have g := ih (i + 1) (up2 (cpyI S (e2 0 + 1) ((z : Int) * (w : Int)) (e2 1 + 1) ((i : Int) * (w : Int)) w) (e2 1) 1 ((i : Int) + 1)) (by omega) (fun q w1 w2 => (funext (fun u => (up2_o _ _ _ _ w1).trans (if_neg (fun c => w2 c.1)))).trans (q1 q w1 w2)) (ad _ ((up2_k _ _ _ _ (by decide)).trans ((if_neg (fun c => by omega)).trans y2)) (up2_eq _ _ _ _) (fun q w0 w1 => by
            rw [Int.mul_comm] at w1
            exact (up2_o _ _ _ _ (by omega)).trans (if_neg (fun c => by omega))) (by
            rw [rowAt_congr (I := cpyI S (e2 0 + 1) ((z : Int) * (w : Int)) (e2 1 + 1) ((i : Int) * (w : Int)) w) (S := _) (a' := e2 1 + 1) (a := e2 1 + 1) (b := (i : Int) * (w : Int)) (fun c _ _ => by rw [Int.mul_comm (w : Int) (i : Int)]; exact up2_o _ _ _ _ (show e2 1 + 1 ≠ e2 1 by omega)), rowAt_cpy]
            unfold rwN
            exact rowAt_congr (fun c _ _ => by rw [z0'])))
          rw [show ((i + 1 : Nat) : Int) = (i : Int) + 1 by omega] at g
          clear ih ad
          have ha : 0 ≤ S (e2 1) 1 * S (e2 1) 2 ∧ 0 ≤ S (e2 1) 2 ∧ S (e2 1) 1 * S (e2 1) 2 + S (e2 1) 2 ≤ (5120 : Nat) ∧ (5120 : Nat) ≤ 524288 ∧ 0 ≤ S (e2 1) 1 := by rw [y1, y2]; omega
          have hz : 0 ≤ (z : Int) * S (e2 0) 2 ∧ (z : Int) * S (e2 0) 2 + S (e2 1) 2 ≤ (5120 : Nat) ∧ (5120 : Nat) ≤ 524288 := by rw [z2, y2]; omega
          have eS : up2 (cpyI S (e2 0 + 1) ((z : Int) * S (e2 0) 2) (e2 1 + 1) (S (e2 1) 1 * S (e2 1) 2) (S (e2 1) 2)) (e2 1) 1 (S (e2 1) 1 + 1) = up2 (cpyI S (e2 0 + 1) ((z : Int) * (w : Int)) (e2 1 + 1) ((i : Int) * (w : Int)) w) (e2 1) 1 ((i : Int) + 1) := by rw [z2, y1, y2]
          rw [← eS] at g
          refine VW.iload (pc' := 101) d_Evaluator_evaluate_99 rfl rfl ?_
          refine VW.aload (pc' := 103) d_Evaluator_evaluate_101 rfl rfl ?_
          refine VW.gI (ci := 5) (T := T5) (N := 3) (k := 1) (k' := 1) (pc' := 106) d_Evaluator_evaluate_103 rfl lk_Evaluator_61 in5 rfl rfl rfl rfl (by first | exact s1 | exact r0.2.1 | exact r1.2.1 | exact t3 | exact v2k | assumption) (by first | exact z1 | exact t2 | exact r1.1 | exact r0.1 | exact v2 | exact v3 | rfl) ?_
          refine VW.icmp_ge (tgt := 133) (pc' := 109) d_Evaluator_evaluate_106 rfl rfl (fun c106 => ?_) (fun c106 => ?_)
          · exfalso; omega
          · refine VW.aload_n (pc' := 110) d_Evaluator_evaluate_109 rfl rfl ?_
            refine VW.gP (ci := 1) (T := T1) (N := 7) (k := 1) (k' := 1) (pc' := 113) d_Evaluator_evaluate_110 rfl lk_Evaluator_11 in1 rfl rfl rfl rfl (by first | exact s1 | exact r0.2.1 | exact r1.2.1 | exact t3 | exact v2k | assumption) (by first | exact z1 | exact t2 | exact r1.1 | exact r0.1 | exact v2 | exact v3 | rfl) ?_
            refine VW.iconst (pc' := 114) d_Evaluator_evaluate_113 rfl (by decide) ?_
            refine VW.rld (pc' := 115) d_Evaluator_evaluate_114 rfl (by first | exact s1 | exact r0.2.1 | exact r1.2.1 | exact t3 | exact v2k | assumption) (by omega) (by omega) (by first | exact z1 | exact t2 | exact r1.1 | exact r0.1 | exact v2 | exact v3 | rfl) ?_
            refine VW.aload (pc' := 117) d_Evaluator_evaluate_115 rfl rfl ?_
            refine VW.aload_n (pc' := 118) d_Evaluator_evaluate_117 rfl rfl ?_
            refine VW.gP (ci := 1) (T := T1) (N := 7) (k := 2) (k' := 2) (pc' := 121) d_Evaluator_evaluate_118 rfl lk_Evaluator_17 in1 rfl rfl rfl rfl (by first | exact s1 | exact r0.2.1 | exact r1.2.1 | exact t3 | exact v2k | assumption) (by first | exact z1 | exact t2 | exact r1.1 | exact r0.1 | exact v2 | exact v3 | rfl) ?_
            refine VW.iload (pc' := 123) d_Evaluator_evaluate_121 rfl rfl ?_
            refine VW.ild (pc' := 124) d_Evaluator_evaluate_123 rfl (by first | exact s1 | exact r0.2.1 | exact r1.2.1 | exact t3 | exact v2k | assumption) (by omega) (by omega) (zov) ?_
            refine VW.cV (ci := 5) (T := T5) (N := 3) (pc' := 127) d_Evaluator_evaluate_124 rfl mv_Relation_addRow lk_Evaluator_64 rfl (by first | exact s1 | exact r0.2.1 | exact r1.2.1 | exact t3 | exact v2k | assumption) rfl rfl rfl (Nat.le_refl _) (Nat.le_refl _) (sp_Relation_addRow r1.2 r0.2 (by rw [y1]; omega) ha hz) rfl rfl ?_
            refine VW.iinc (pc' := 130) d_Evaluator_evaluate_127 rfl rfl rfl (by omega) ?_
            refine VW.goto (pc' := 99) d_Evaluator_evaluate_130 rfl ?_
            refine VW.pick [0, 1, 2, 3, 4, 5] ?_
            exact g
      have l9 := loop L.length 0 (up2 (up2 T2 (e2 1) 1 0) (e2 1) 2 w) (by omega) (fun q w1 w2 => funext (fun u => (up2_o _ _ _ _ w1).trans (up2_o _ _ _ _ w1))) ⟨up2_eq _ _ _ _, (up2_k _ _ _ _ (by decide)).trans (up2_eq _ _ _ _), rfl⟩
      clear loop
      have z2 : T2 (e2 0) 2 = w := by rw [f0]; exact hR.1
      refine VW.aload_n (pc' := 83) d_Evaluator_evaluate_82 rfl rfl ?_
      refine VW.gP (ci := 1) (T := T1) (N := 7) (k := 1) (k' := 1) (pc' := 86) d_Evaluator_evaluate_83 rfl lk_Evaluator_11 in1 rfl rfl rfl rfl (by first | exact s1 | exact r0.2.1 | exact r1.2.1 | exact t3 | exact v2k | assumption) (by first | exact z2 | exact t2 | exact r1.1 | rfl) ?_
      refine VW.iconst (pc' := 87) d_Evaluator_evaluate_86 rfl (by decide) ?_
      refine VW.rld (pc' := 88) d_Evaluator_evaluate_87 rfl (by first | exact s1 | exact r0.2.1 | exact r1.2.1 | exact t3 | exact v2k | assumption) (by omega) (by omega) (by first | exact z2 | exact t2 | exact r1.1 | rfl) ?_
      refine VW.aload (pc' := 90) d_Evaluator_evaluate_88 rfl rfl ?_
      refine VW.gI (ci := 5) (T := T5) (N := 3) (k := 2) (k' := 2) (pc' := 93) d_Evaluator_evaluate_90 rfl lk_Evaluator_54 in5 rfl rfl rfl rfl (by first | exact s1 | exact r0.2.1 | exact r1.2.1 | exact t3 | exact v2k | assumption) (by first | exact z2 | exact t2 | exact r1.1 | rfl) ?_
      refine VW.cV (ci := 5) (T := T5) (N := 3) (pc' := 96) d_Evaluator_evaluate_93 rfl mv_Relation_reset lk_Evaluator_57 rfl (by first | exact s1 | exact r0.2.1 | exact r1.2.1 | exact t3 | exact v2k | assumption) rfl rfl rfl (Nat.le_refl _) (Nat.le_refl _) (sp_Relation_reset r1.2) rfl rfl ?_
      refine VW.iconst (pc' := 97) d_Evaluator_evaluate_96 rfl (by decide) ?_
      refine VW.istore (pc' := 99) d_Evaluator_evaluate_97 rfl rfl ?_
      refine VW.pick [0, 1, 2, 3, 4, 5] ?_
      exact l9
    refine VW.aload_n (pc' := 45) d_Evaluator_evaluate_44 rfl rfl ?_
    refine VW.gI (ci := 1) (T := T1) (N := 7) (k := 6) (k' := 6) (pc' := 48) d_Evaluator_evaluate_45 rfl lk_Evaluator_37 in1 rfl rfl rfl rfl (by first | exact s1 | exact r0.2.1 | exact r1.2.1 | exact t3 | exact v2k | assumption) (by first | exact h6 | exact h5 | exact t2 | exact r0.1 | exact v2 | exact v3 | rfl) ?_
    refine VW.if_ne (tgt := 59) (pc' := 51) d_Evaluator_evaluate_48 rfl rfl (fun c48 => ?_) (fun c48 => ?_)
    case refine_1 => exact absurd c48 (by omega)
    refine VW.aload_n (pc' := 52) d_Evaluator_evaluate_51 rfl rfl ?_
    refine VW.gI (ci := 1) (T := T1) (N := 7) (k := 5) (k' := 5) (pc' := 55) d_Evaluator_evaluate_52 rfl lk_Evaluator_33 in1 rfl rfl rfl rfl (by first | exact s1 | exact r0.2.1 | exact r1.2.1 | exact t3 | exact v2k | assumption) (by first | exact h6 | exact h5 | exact t2 | exact r0.1 | exact v2 | exact v3 | rfl) ?_
    refine VW.iconst (pc' := 56) d_Evaluator_evaluate_55 rfl (by decide) ?_
    refine VW.icmp_eq (tgt := 61) (pc' := 59) d_Evaluator_evaluate_56 rfl rfl (fun c56 => ?_) (fun c56 => ?_)
    case refine_2 => exact absurd c56 (by omega)
    refine VW.aload_n (pc' := 62) d_Evaluator_evaluate_61 rfl rfl ?_
    refine VW.gP (ci := 1) (T := T1) (N := 7) (k := 1) (k' := 1) (pc' := 65) d_Evaluator_evaluate_62 rfl lk_Evaluator_11 in1 rfl rfl rfl rfl (by first | exact s1 | exact r0.2.1 | exact r1.2.1 | exact t3 | exact v2k | assumption) (by first | exact h6 | exact h5 | exact t2 | exact r0.1 | exact v2 | exact v3 | rfl) ?_
    refine VW.iconst (pc' := 66) d_Evaluator_evaluate_65 rfl (by decide) ?_
    refine VW.rld (pc' := 67) d_Evaluator_evaluate_66 rfl (by first | exact s1 | exact r0.2.1 | exact r1.2.1 | exact t3 | exact v2k | assumption) (by omega) (by omega) (by first | exact h6 | exact h5 | exact t2 | exact r0.1 | exact v2 | exact v3 | rfl) ?_
    refine VW.astore (pc' := 69) d_Evaluator_evaluate_67 rfl rfl ?_
    refine VW.aload (pc' := 71) d_Evaluator_evaluate_69 rfl rfl ?_
    refine VW.aload_n (pc' := 72) d_Evaluator_evaluate_71 rfl rfl ?_
    refine VW.gP (ci := 1) (T := T1) (N := 7) (k := 2) (k' := 2) (pc' := 75) d_Evaluator_evaluate_72 rfl lk_Evaluator_17 in1 rfl rfl rfl rfl (by first | exact s1 | exact r0.2.1 | exact r1.2.1 | exact t3 | exact v2k | assumption) (by first | exact h6 | exact h5 | exact t2 | exact r0.1 | exact v2 | exact v3 | rfl) ?_
    refine VW.aload_n (pc' := 76) d_Evaluator_evaluate_75 rfl rfl ?_
    refine VW.gP (ci := 1) (T := T1) (N := 7) (k := 3) (k' := 3) (pc' := 79) d_Evaluator_evaluate_76 rfl lk_Evaluator_21 in1 rfl rfl rfl rfl (by first | exact s1 | exact r0.2.1 | exact r1.2.1 | exact t3 | exact v2k | assumption) (by first | exact h6 | exact h5 | exact t2 | exact r0.1 | exact v2 | exact v3 | rfl) ?_
    refine VW.cVu (ci := 5) (T := T5) (N := 3) (pc' := 82) d_Evaluator_evaluate_79 rfl mv_Relation_orderInto lk_Evaluator_50 rfl (by first | exact s1 | exact r0.2.1 | exact r1.2.1 | exact t3 | exact v2k | assumption) rfl rfl rfl (Nat.le_refl _) (Nat.le_refl _) (sp_Relation_orderInto r0.2 v2k v3k hos ⟨np r0.2.2.2 (Or.inr (by decide)), no r0.2.2.2 (Or.inr (by decide))⟩ ⟨hR.1, hb.1.1⟩ ⟨hR.2.1, hb.1.2⟩) rfl rfl (fun T2 h2 => ?_)
    refine VW.pick [0, 1, 2, 3, 4] ?_
    exact nx T2 h2.1 h2.2.1 h2.2.2
theorem sp_Evaluator_evaluate {v sk s od sp mm wi ck dt tg ru vv r a qn n w : Nat} {e : Nat → Nat} {Wn : Nat → Prop} {y : Int} {L : List (List Int)} (hw : SpW K P I v sk s od sp mm wi ck dt tg ru vv r a qn e Wn) (hWk : ∀ q, Wn q → K q = some (5, 0) ∨ K q = some (100, 5120)) (hos : od ≠ sp) (hE : EcOK I s wi vv a y qn n w L) : Sp m_Evaluator_evaluate false (rmv 7 280) (fun r' K' P' J' I' => K' = K ∧ J' = J ∧ (∃ e', (StW K P' v sk e' ∧ ∀ i : Nat, i < 4 → Wn (e' i) ∧ Wn (e' i + 1)) ∧ ((evCF I s wi vv a y qn n ∧ r' = .inl (some (vR none))) ∨ (¬ evCF I s wi vv a y qn n ∧ ∃ M, r' = .inl (some (vR (some (e' 1)))) ∧ RelR I' (e' 1) (e' 1 + 1) w M ∧ M.Perm L ∧ Ris M))) ∧ (∀ q, q ≠ v → q ≠ mm → q ≠ od → q ≠ sp → ¬ Wn q → I' q = I q) ∧ ∀ q, q ≠ sk → P' q = P q : PQ) K P J I [vR (some v), vR (some qn), vR (some r), vI y] := by
  refine Sp.ofV (by decide) (Or.inr rfl) rfl ?_
  obtain ⟨⟨hS, hW, hWn⟩, hA, hG, hRw, hQ, hc, hd⟩ := id hw
  obtain ⟨⟨hn0, hn⟩, hok, hst, hend⟩ := id hE
  obtain ⟨v0, ⟨v2, v2k⟩, ⟨v3, v3k⟩, v4, v4k⟩ := id hA
  have s1 := hS.1
  have s3 := hS.2.2.1
  have nW : ∀ q m z, K q = some (m, z) → (m ≠ 5 ∧ (m = 100 → z ≠ 5120)) → ¬ Wn q := fun q m z h1 h2 h3 => by
    rcases hWk q h3 with g | g
    · have := Option.some.inj (h1.symm.trans g); exact h2.1 (congrArg Prod.fst this)
    · have := Option.some.inj (h1.symm.trans g); exact h2.2 (congrArg Prod.fst this) (congrArg Prod.snd this)
  have nk : ∀ {q m z : Nat} {p m2 z2 : Nat}, K q = some (m, z) → K p = some (m2, z2) → (m ≠ m2 ∨ z ≠ z2) → q ≠ p := fun h1 h2 h3 h4 => by
    have := Option.some.inj (h1.symm.trans (h4 ▸ h2))
    rcases h3 with h3 | h3
    · exact h3 (congrArg Prod.fst this)
    · exact h3 (congrArg Prod.snd this)
  have nv : ∀ {q m z : Nat}, K q = some (m, z) → m ≠ 1 → q ≠ v := fun h1 h2 => nk h1 s1 (Or.inl h2)
  have nm : ∀ {q m z : Nat}, K q = some (m, z) → m ≠ 101 → q ≠ mm := fun h1 h2 => nk h1 v4k (Or.inl h2)
  have ns : ∀ {q m z : Nat}, K q = some (m, z) → m ≠ 103 → q ≠ sk := fun h1 h2 => nk h1 s3 (Or.inl h2)
  have loop : ∀ (l k : Nat) (P' : PT) (T : IT) (e2 : Nat → Nat), k + l = n → EcI K P I T v sk s mm wi vv a qn y Wn k P' e2 → VW m_Evaluator_evaluate false (rmv 7 280) (fun r' K' P' J' I' => K' = K ∧ J' = J ∧ (∃ e', (StW K P' v sk e' ∧ ∀ i : Nat, i < 4 → Wn (e' i) ∧ Wn (e' i + 1)) ∧ ((evCF I s wi vv a y qn n ∧ r' = .inl (some (vR none))) ∨ (¬ evCF I s wi vv a y qn n ∧ ∃ M, r' = .inl (some (vR (some (e' 1)))) ∧ RelR I' (e' 1) (e' 1 + 1) w M ∧ M.Perm L ∧ Ris M))) ∧ (∀ q, q ≠ v → q ≠ mm → q ≠ od → q ≠ sp → ¬ Wn q → I' q = I q) ∧ ∀ q, q ≠ sk → P' q = P q : PQ) K P' J T 0 0 13 [(0, vR (some v)), (1, vR (some qn)), (2, vR (some r)), (3, vI y), (4, vI (k : Int))] [] := by
    intro l
    induction l with
    | zero =>
      intro k P' T e2 hk h
      have ek : k = n := by omega
      subst ek
      have l9 := ev_end (J := J) hw hWk hos hE h
      obtain ⟨⟨g1, g2⟩, ⟨g3, g4, g5⟩, g6, g7⟩ := h
      have h0 : T qn 0 = k := by rw [g6 _ (nv hQ.k (by decide)) (nm hQ.k (by decide)) (nW _ _ _ hQ.k (by decide))]; exact hn0
      refine VW.iload (pc' := 15) d_Evaluator_evaluate_13 rfl rfl ?_
      refine VW.aload_n (pc' := 16) d_Evaluator_evaluate_15 rfl rfl ?_
      refine VW.gI (ci := 4) (T := T4) (N := 13) (k := 0) (k' := 0) (pc' := 19) d_Evaluator_evaluate_16 rfl lk_Evaluator_41 in4 rfl rfl rfl rfl (by first | exact s1 | exact hQ.k | exact g1.2.2.1 | assumption) (by first | exact h0 | rfl) ?_
      refine VW.icmp_ge (tgt := 44) (pc' := 22) d_Evaluator_evaluate_19 rfl rfl (fun c19 => ?_) (fun c19 => ?_)
      case refine_2 => exact absurd c19 (by omega)
      refine VW.pick [0, 1, 2, 3] ?_
      exact l9
    | succ l ih =>
      intro k P' T e2 hk h
      have h' := h
      obtain ⟨⟨g1, g2⟩, ⟨g3, g4, g5⟩, g6, g7⟩ := h
      have h0 : T qn 0 = n := by rw [g6 _ (nv hQ.k (by decide)) (nm hQ.k (by decide)) (nW _ _ _ hQ.k (by decide))]; exact hn0
      by_cases hF : evCF I s wi vv a y qn k
      · have h6 : T v 6 = 1 := by rw [g5, bI1 hF]
        have hF2 : evCF I s wi vv a y qn n := by have := evCF_up hF (l + 1); rw [hk] at this; exact this
        have hA2 := hA.of (P' := P') (g7 v (ns s1 (by decide)))
        have fin : (fun r' K' P' J' I' => K' = K ∧ J' = J ∧ (∃ e', (StW K P' v sk e' ∧ ∀ i : Nat, i < 4 → Wn (e' i) ∧ Wn (e' i + 1)) ∧ ((evCF I s wi vv a y qn n ∧ r' = .inl (some (vR none))) ∨ (¬ evCF I s wi vv a y qn n ∧ ∃ M, r' = .inl (some (vR (some (e' 1)))) ∧ RelR I' (e' 1) (e' 1 + 1) w M ∧ M.Perm L ∧ Ris M))) ∧ (∀ q, q ≠ v → q ≠ mm → q ≠ od → q ≠ sp → ¬ Wn q → I' q = I q) ∧ ∀ q, q ≠ sk → P' q = P q : PQ) (.inl (some (vR none))) K P' J T := ⟨rfl, rfl, ⟨e2, ⟨g1, g2⟩, Or.inl ⟨hF2, rfl⟩⟩, fun q q1 q2 _ _ q5 => g6 q q1 q2 q5, g7⟩
        clear ih
        refine VW.iload (pc' := 15) d_Evaluator_evaluate_13 rfl rfl ?_
        refine VW.aload_n (pc' := 16) d_Evaluator_evaluate_15 rfl rfl ?_
        refine VW.gI (ci := 4) (T := T4) (N := 13) (k := 0) (k' := 0) (pc' := 19) d_Evaluator_evaluate_16 rfl lk_Evaluator_41 in4 rfl rfl rfl rfl (by first | exact s1 | exact hQ.k | exact g1.2.2.1 | assumption) (by first | exact h0 | exact h6 | rfl) ?_
        refine VW.icmp_ge (tgt := 44) (pc' := 22) d_Evaluator_evaluate_19 rfl rfl (fun c19 => ?_) (fun c19 => ?_)
        case refine_1 => exact absurd c19 (by omega)
        refine VW.aload_n (pc' := 23) d_Evaluator_evaluate_22 rfl rfl ?_
        refine VW.gI (ci := 1) (T := T1) (N := 7) (k := 6) (k' := 6) (pc' := 26) d_Evaluator_evaluate_23 rfl lk_Evaluator_37 in1 rfl rfl rfl rfl (by first | exact s1 | exact hQ.k | exact g1.2.2.1 | assumption) (by first | exact h0 | exact h6 | rfl) ?_
        refine VW.if_ne (tgt := 44) (pc' := 29) d_Evaluator_evaluate_26 rfl rfl (fun c26 => ?_) (fun c26 => ?_)
        case refine_2 => exact absurd c26 (by omega)
        refine VW.aload_n (pc' := 45) d_Evaluator_evaluate_44 rfl rfl ?_
        refine VW.gI (ci := 1) (T := T1) (N := 7) (k := 6) (k' := 6) (pc' := 48) d_Evaluator_evaluate_45 rfl lk_Evaluator_37 in1 rfl rfl rfl rfl (by first | exact s1 | exact hQ.k | exact g1.2.2.1 | assumption) (by first | exact h0 | exact h6 | rfl) ?_
        refine VW.if_ne (tgt := 59) (pc' := 51) d_Evaluator_evaluate_48 rfl rfl (fun c48 => ?_) (fun c48 => ?_)
        case refine_2 => exact absurd c48 (by omega)
        refine VW.null (pc' := 60) d_Evaluator_evaluate_59 rfl ?_
        exact VW.aret d_Evaluator_evaluate_60 rfl (by first | exact Or.inl ⟨_, rfl⟩ | exact Or.inr ⟨_, rfl⟩) (Nat.zero_le _) (Nat.zero_le _) fin
      · have h6 : T v 6 = 0 := by rw [g5, bI0 hF]
        have fr : ∀ {q m z : Nat}, K q = some (m, z) → m ≠ 1 → m ≠ 101 → (m ≠ 5 ∧ (m = 100 → z ≠ 5120)) → T q = I q := fun h1 h2 h3 h4 => g6 _ (nv h1 h2) (nm h1 h3) (nW _ _ _ h1 h4)
        have ts : T s = I s := fr hG.1 (by decide) (by decide) (by decide)
        have twi : T wi = I wi := fr hG.2.1.2 (by decide) (by decide) (by decide)
        have tvv : T vv = I vv := fr hG.2.2.2.2.2.2.2 (by decide) (by decide) (by decide)
        have ta : T a = I a := fr hRw.2.2 (by decide) (by decide) (by decide)
        have t3 : T (qn + 3) = I (qn + 3) := fr hQ.k2 (by decide) (by decide) (by decide)
        have t4 : T (qn + 4) = I (qn + 4) := fr hQ.k3 (by decide) (by decide) (by decide)
        have t5 : T (qn + 5) = I (qn + 5) := fr hQ.k4 (by decide) (by decide) (by decide)
        have w2 : SpW K P' T v sk s od sp mm wi ck dt tg ru vv r a qn e2 Wn := ⟨⟨g1, g2, hWn⟩, hA.of (g7 v (ns s1 (by decide))), hG.of (g7 s (ns hG.1 (by decide))), hRw.of (g7 r (ns hRw.1 (by decide))), hQ.of (g7 qn (ns hQ.k (by decide))), by rw [ts]; exact hc, by rw [ts, tvv]; exact hd⟩
        have o := hok k (by omega)
        have b := hst k (by omega)
        have eS := scC_of (y := y) ts tvv ta twi
        have spS := sp_Evaluator_step (J := J) (x := (k : Int)) (y := y) w2 ⟨by omega, by omega⟩ (congrFun t3 _) (congrFun t4 _) (congrFun t4 _) (congrFun t4 _) (congrFun t4 _) (congrFun t5 _) b.1 g3 g4 b.2 (by rw [h6]; exact Or.inl rfl) o.1 (fun z => by rw [twi]; exact o.2.1 z) o.2.2
        rw [eS] at spS
        have nx : ∀ (P2 : PT) (T2 : IT), StR K P' J T v sk mm e2 Wn (evC I s wi vv a y qn (k + 1)) (ev1F (I (qn + 3) (k : Int)) (I (qn + 4) ((k : Int) * 4 + 0)) (I (qn + 4) ((k : Int) * 4 + 1)) (evC I s wi vv a y qn k)) P2 T2 → VW m_Evaluator_evaluate false (rmv 7 280) (fun r' K' P' J' I' => K' = K ∧ J' = J ∧ (∃ e', (StW K P' v sk e' ∧ ∀ i : Nat, i < 4 → Wn (e' i) ∧ Wn (e' i + 1)) ∧ ((evCF I s wi vv a y qn n ∧ r' = .inl (some (vR none))) ∨ (¬ evCF I s wi vv a y qn n ∧ ∃ M, r' = .inl (some (vR (some (e' 1)))) ∧ RelR I' (e' 1) (e' 1 + 1) w M ∧ M.Perm L ∧ Ris M))) ∧ (∀ q, q ≠ v → q ≠ mm → q ≠ od → q ≠ sp → ¬ Wn q → I' q = I q) ∧ ∀ q, q ≠ sk → P' q = P q : PQ) K P2 J T2 0 0 13 [(0, vR (some v)), (1, vR (some qn)), (2, vR (some r)), (3, vI y), (4, vI ((k : Int) + 1))] [] := by
          intro P2 T2 ⟨e3, q1, q2, q3, q4, q5, q6, q7, q8⟩
          have g := ih (k + 1) P2 T2 e3 (by omega) ⟨⟨q1, q2⟩, ⟨q3, q4, by
            rw [q5, h6]
            have : (0 = (1 : Int) ∨ ev1F (I (qn + 3) (k : Int)) (I (qn + 4) ((k : Int) * 4 + 0)) (I (qn + 4) ((k : Int) * 4 + 1)) (evC I s wi vv a y qn k)) = evCF I s wi vv a y qn (k + 1) := propext ⟨fun z => z.elim (fun u => by cases u) Or.inr, fun z => z.elim (fun u => absurd u hF) Or.inr⟩
            rw [this]⟩, fun q u1 u2 u3 => (q6 q u1 u2 u3).trans (g6 q u1 u2 u3), fun q u => (q8 q u).trans (g7 q u)⟩
          rw [show ((k + 1 : Nat) : Int) = (k : Int) + 1 by omega] at g
          exact g
        clear ih
        refine VW.iload (pc' := 15) d_Evaluator_evaluate_13 rfl rfl ?_
        refine VW.aload_n (pc' := 16) d_Evaluator_evaluate_15 rfl rfl ?_
        refine VW.gI (ci := 4) (T := T4) (N := 13) (k := 0) (k' := 0) (pc' := 19) d_Evaluator_evaluate_16 rfl lk_Evaluator_41 in4 rfl rfl rfl rfl (by first | exact s1 | exact hQ.k | exact g1.2.2.1 | assumption) (by first | exact h0 | exact h6 | rfl) ?_
        refine VW.icmp_ge (tgt := 44) (pc' := 22) d_Evaluator_evaluate_19 rfl rfl (fun c19 => ?_) (fun c19 => ?_)
        case refine_1 => exact absurd c19 (by omega)
        refine VW.aload_n (pc' := 23) d_Evaluator_evaluate_22 rfl rfl ?_
        refine VW.gI (ci := 1) (T := T1) (N := 7) (k := 6) (k' := 6) (pc' := 26) d_Evaluator_evaluate_23 rfl lk_Evaluator_37 in1 rfl rfl rfl rfl (by first | exact s1 | exact hQ.k | exact g1.2.2.1 | assumption) (by first | exact h0 | exact h6 | rfl) ?_
        refine VW.if_ne (tgt := 44) (pc' := 29) d_Evaluator_evaluate_26 rfl rfl (fun c26 => ?_) (fun c26 => ?_)
        case refine_1 => exact absurd c26 (by omega)
        refine VW.aload_n (pc' := 30) d_Evaluator_evaluate_29 rfl rfl ?_
        refine VW.aload_n (pc' := 31) d_Evaluator_evaluate_30 rfl rfl ?_
        refine VW.iload (pc' := 33) d_Evaluator_evaluate_31 rfl rfl ?_
        refine VW.aload_n (pc' := 34) d_Evaluator_evaluate_33 rfl rfl ?_
        refine VW.iload_n (pc' := 35) d_Evaluator_evaluate_34 rfl rfl ?_
        refine VW.cVq (ci := 1) (T := T1) (N := 7) (pc' := 38) d_Evaluator_evaluate_35 rfl mv_Evaluator_step lk_Evaluator_46 rfl (by first | exact s1 | exact hQ.k | exact g1.2.2.1 | assumption) rfl rfl rfl (Nat.le_refl _) (Nat.le_refl _) (spS) rfl rfl (fun r9 K9 P9 J9 I9 h9 => ?_)
        obtain ⟨z1, z2, z3, h9⟩ := h9
        cases z1
        subst z2 z3
        refine VW.iinc (pc' := 41) d_Evaluator_evaluate_38 rfl rfl rfl (by omega) ?_
        refine VW.goto (pc' := 13) d_Evaluator_evaluate_41 rfl ?_
        refine VW.pick [0, 1, 2, 3, 4] ?_
        exact nx _ _ h9
  have i0 : ∀ q, q ≠ v → up2 (up2 I v 5 0) v 6 0 q = I q := fun q hq => funext (fun z => (up2_o _ _ _ _ hq).trans (up2_o _ _ _ _ hq))
  have l9 := loop n 0 P (up2 (up2 I v 5 0) v 6 0) e (by omega) ⟨⟨hS, hW⟩, ⟨trivial, (up2_k _ _ _ _ (by decide)).trans (up2_eq _ _ _ _), (up2_eq _ _ _ _).trans (bI0 (fun z => z)).symm⟩, fun q q1 _ _ => i0 q q1, fun _ _ => rfl⟩
  clear loop
  refine VW.aload_n (pc' := 1) d_Evaluator_evaluate_0 rfl rfl ?_
  refine VW.iconst (pc' := 2) d_Evaluator_evaluate_1 rfl (by decide) ?_
  refine VW.pI (ci := 1) (T := T1) (N := 7) (k := 5) (k' := 5) (ty := ty1) (pc' := 5) d_Evaluator_evaluate_2 rfl lk_Evaluator_33 in1 tk1 nm1 rfl rfl rfl rfl rfl rfl (by first | exact s1 | exact hQ.k | exact g1.2.2.1 | assumption) ?_
  refine VW.aload_n (pc' := 6) d_Evaluator_evaluate_5 rfl rfl ?_
  refine VW.iconst (pc' := 7) d_Evaluator_evaluate_6 rfl (by decide) ?_
  refine VW.pZ (ci := 1) (T := T1) (N := 7) (k := 6) (k' := 6) (ty := ty1) (pc' := 10) d_Evaluator_evaluate_7 rfl lk_Evaluator_37 in1 tk1 nm1 rfl rfl rfl rfl rfl rfl (by omega) (by first | exact s1 | exact hQ.k | exact g1.2.2.1 | assumption) ?_
  refine VW.iconst (pc' := 11) d_Evaluator_evaluate_10 rfl (by decide) ?_
  refine VW.istore (pc' := 13) d_Evaluator_evaluate_11 rfl rfl ?_
  refine VW.pick [0, 1, 2, 3, 4] ?_
  exact l9
end
