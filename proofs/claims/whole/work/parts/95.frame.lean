/-! the frame rule: a contract over some names (W) is one over more; the rest stays as it is -/
theorem Met.cons {l : Launch} {y : MethodName} {ws : List Cond} {rm : Room} {Pc Pc' : Array Value → State → Prop} {Qc Qc' : Array Value → State → Outcome → State → Prop} {mc ms : Nat} {free free' : Addr → Prop} (h : Met l y ws rm Pc Qc mc ms free) (hp : ∀ a s, Pc' a s → Pc a s) (hq : ∀ a s o t, Pc' a s → Qc a s o t → Qc' a s o t) (hf : ∀ q, free q → free' q) : Met l y ws rm Pc' Qc' mc ms free' := by
  intro p e ha hc hk s m args below hs happ hP _
  obtain ⟨n, o, h1, h2, h3, h4, L, h5, h6⟩ := h p e ha hc hk s m args below hs happ (hp _ _ hP) trivial
  exact ⟨n, o, h1, h2, h3, hq _ _ _ _ hP h4, L, h5, fun q hq => hf _ (h6 q hq)⟩
theorem vx_Met.cons {l : Launch} {y : MethodName} {ws : List Cond} {rm : Room} {Pc Pc' : Array Value → State → Prop} {Qc Qc' : Array Value → State → Outcome → State → Prop} {XC XC' : String → State → State → Prop} {mc ms : Nat} {free free' : Addr → Prop} (h : vx_Met l y ws rm Pc Qc XC mc ms free) (hp : ∀ a s, Pc' a s → Pc a s) (hq : ∀ a s o t, Pc' a s → Qc a s o t → Qc' a s o t) (hx : ∀ a s E t, Pc' a s → XC E s t → XC' E s t) (hf : ∀ q, free q → free' q) : vx_Met l y ws rm Pc' Qc' XC' mc ms free' := by
  intro p e ha hc hk s m args below hs happ hP _
  obtain ⟨n, o, h1, h2, h3, h4⟩ := h p e ha hc hk s m args below hs happ (hp _ _ hP) trivial
  refine ⟨n, o, h1, h2, h3, ?_⟩
  rcases h4 with ⟨h4, L, h5, h6⟩ | ⟨q, h4, E, ce, L, h5, h6, h7, h8, h9, h10, h11⟩
  · exact Or.inl ⟨hq _ _ _ _ hP h4, L, h5, fun q hq => hf _ (h6 q hq)⟩
  · exact Or.inr ⟨q, h4, E, ce, L, hx _ _ _ _ hP h5, h6, h7, h8, h9, h10, fun z hz => hf _ (h11 z hz)⟩
noncomputable def rsF {α : Type} (W : Nat → Prop) (z : α) (f : Nat → α) : Nat → α := fun o => @ite _ (W o) (Classical.propDecidable _) (f o) z
theorem rsF_y {α : Type} {W : Nat → Prop} {z : α} {f : Nat → α} {o : Nat} (h : W o) : rsF W z f o = f o := if_pos h
theorem rsF_n {α : Type} {W : Nat → Prop} {z : α} {f : Nat → α} {o : Nat} (h : ¬ W o) : rsF W z f o = z := if_neg h
noncomputable abbrev rsK (W : Nat → Prop) (K : KT) : KT := rsF W none K
noncomputable abbrev rsP (W : Nat → Prop) (P : PT) : PT := rsF W (fun _ => none) P
noncomputable abbrev rsI (W : Nat → Prop) (I : IT) : IT := rsF W (fun _ => 0) I
theorem rsK_some {W : Nat → Prop} {K : KT} {o : Nat} (h : (rsK W K o).isSome = true) : W o ∧ (K o).isSome = true := by
  by_cases w : W o
  · exact ⟨w, by rw [← rsF_y (z := none) (f := K) w]; exact h⟩
  · unfold rsK at h; rw [rsF_n w] at h; cases h
/-- what a call over W leaves of the whole -/
def FrQ (W : Nat → Prop) (Q : PQ) (K : KT) (P : PT) (J I : IT) : PQ := fun r K' P' J' I' => ∃ (K1 : KT) (P1 : PT) (J1 I1 : IT), Q r K1 P1 J1 I1 ∧ (∀ o, (K o).isSome = true → ¬ W o → K1 o = none) ∧ (∀ o, (K o).isSome = true → ¬ W o → K' o = K o ∧ P' o = P o ∧ J' o = J o ∧ I' o = I o) ∧ ∀ o, ¬ ((K o).isSome = true ∧ ¬ W o) → K' o = K1 o ∧ P' o = P1 o ∧ J' o = J1 o ∧ I' o = I1 o
theorem Rep.mk' {D : GD} {A : Nat → Prop} {ad : Nat → Nat} {dom : List Nat} {K : KT} {P : PT} {J I : IT} {H : Heap} (hn : dom.Nodup) (hd : ∀ o, o ∈ dom ↔ (K o).isSome = true ∧ ¬ ou K o) (hO : OR D ad K I) (hP : ∀ o kd, K o = some kd → ¬ ou K o → va_at (D.1, D.2.1) classes (ad o, ce D ad P J I o kd) H) (hi : ∀ o o', (K o).isSome = true → ¬ ou K o → (K o').isSome = true → ¬ ou K o' → ad o = ad o' → o = o') (hA : ∀ o, (K o).isSome = true → ¬ ou K o → A (ad o)) : Rep D A ad dom K P J I H := by
  have at' : ∀ (k : Nat) (q : Nat × va_E), (wl D ad dom K P J I)[k]? = some q → ∃ o kd, dom[k]? = some o ∧ K o = some kd ∧ ¬ ou K o ∧ q = (ad o, ce D ad P J I o kd) := by
    intro k q hq
    unfold wl at hq
    rw [List.getElem?_map] at hq
    cases ho : dom[k]? with
    | none => rw [ho] at hq; cases hq
    | some o =>
      rw [ho] at hq
      obtain ⟨m1, m2⟩ := (hd o).mp (List.mem_of_getElem? ho)
      obtain ⟨kd, hk⟩ := Option.isSome_iff_exists.mp m1
      refine ⟨o, kd, rfl, hk, m2, ?_⟩
      cases hq
      show (ad o, ce D ad P J I o ((K o).getD (0, 0))) = _
      rw [hk]; rfl
  refine ⟨hn, ⟨hd, hO⟩, fun k q hq => ?_, fun i j p q hp hq e => ?_, fun k q hq => ?_⟩
  · obtain ⟨o, kd, -, h2, h3, rfl⟩ := at' k q hq
    exact hP o kd h2 h3
  · obtain ⟨o, kd, h1, h2, h3, rfl⟩ := at' i p hp
    obtain ⟨o', kd', h1', h2', h3', rfl⟩ := at' j q hq
    have : o = o' := hi o o' (by rw [h2]; rfl) h3 (by rw [h2']; rfl) h3' e
    subst this
    exact (List.getElem?_inj (List.getElem?_eq_some_iff.mp h1).1 hn).mp (h1.trans h1'.symm)
  · obtain ⟨o, kd, -, h2, h3, rfl⟩ := at' k q hq
    exact hA o (by rw [h2]; rfl) h3
theorem Rep.va {D : GD} {A : Nat → Prop} {ad : Nat → Nat} {dom : List Nat} {K : KT} {P : PT} {J I : IT} {H : Heap} (h : Rep D A ad dom K P J I H) {o : Nat} {kd : Nat × Nat} (hk : K o = some kd) (hn : ¬ ou K o) : va_at (D.1, D.2.1) classes (ad o, ce D ad P J I o kd) H := by
  obtain ⟨i, -, hi⟩ := h.atn hk hn
  exact h.2.2.1 i _ hi
theorem Rep.inA {D : GD} {A : Nat → Prop} {ad : Nat → Nat} {dom : List Nat} {K : KT} {P : PT} {J I : IT} {H : Heap} (h : Rep D A ad dom K P J I H) {o : Nat} (hk : (K o).isSome = true) (hn : ¬ ou K o) : A (ad o) := by
  obtain ⟨kd, e⟩ := Option.isSome_iff_exists.mp hk
  obtain ⟨i, -, hi⟩ := h.atn e hn
  exact h.2.2.2.2 i _ hi
section Frame
variable {W : Nat → Prop} {K : KT} {P : PT} {J I : IT} {D : GD} {ad : Nat → Nat} {dom : List Nat} {sz : Nat}
theorem ou_rs {o : Nat} (w : W o) : ou (rsK W K) o ↔ ou K o := by
  unfold ou
  rw [show rsK W K o = K o from rsF_y w]
theorem AF.rs {q : Nat} (h : AF ad (rsK W K) sz q) : AF ad K sz q := h.elim (fun ⟨o, h1, h2, h3⟩ => Or.inl ⟨o, (rsK_some h1).2, fun z => h2 ((ou_rs (rsK_some h1).1).mpr z), h3⟩) Or.inr
theorem Rep.rs {H : Heap} (h9 : W 999) (hW : ∀ o, W o → ∀ k q, P o k = some q → W q) (h : Rep D (AF ad K sz) ad dom K P J I H) : Rep D (AF ad (rsK W K) sz) ad (dom.filter (fun o => @decide (W o) (Classical.propDecidable _))) (rsK W K) (rsP W P) (rsI W J) (rsI W I) H := by
  have hO := h.2.1.2
  refine Rep.mk' (h.1.filter _) (fun o => ?_) ⟨⟨(rsF_y h9).trans hO.1.1, hO.1.2⟩, fun o n e => ?_, hO.2.2.1, fun o h1 h2 => hO.2.2.2 o (rsK_some h1).2 (fun z => h2 ((ou_rs (rsK_some h1).1).mpr z))⟩ (fun o kd hk hn => ?_) (fun o o' h1 _ h2 _ e => h.inj (rsK_some h1).2 (rsK_some h2).2 e) (fun o ho hn => Or.inl ⟨o, ho, hn, rfl⟩)
  · rw [List.mem_filter, h.2.1.1 o]
    by_cases w : W o
    · rw [ou_rs w, show rsK W K o = K o from rsF_y w]
      exact ⟨fun z => z.1, fun z => ⟨z, @decide_eq_true _ (Classical.propDecidable _) w⟩⟩
    · rw [show rsK W K o = none from rsF_n w]
      exact ⟨fun z => absurd (@of_decide_eq_true _ (Classical.propDecidable _) z.2) w, fun z => by cases z.1⟩
  · have w := (rsK_some (W := W) (K := K) (o := o) (by rw [e]; rfl)).1
    rw [show rsK W K o = K o from rsF_y w] at e
    obtain ⟨b1, b2, b3, b4⟩ := hO.2.1 o n e
    exact ⟨b1, b2, b3, fun j => by rw [show rsI W I o = I o from rsF_y w]; exact b4 j⟩
  · have w := (rsK_some (W := W) (K := K) (o := o) (by rw [hk]; rfl)).1
    have e : K o = some kd := by rw [← hk]; exact (rsF_y w).symm
    have v := h.va e (fun z => hn ((ou_rs w).mpr z))
    rwa [ce_congr kd (ad' := ad) (P' := rsP W P) (J' := rsI W J) (I' := rsI W I) (P := P) (J := J) (I := I) (ad := ad) (D := D) (o := o) (fun k => by rw [show rsI W I o = I o from rsF_y w]) (fun k => by rw [show rsI W J o = J o from rsF_y w]) (fun k => by rw [show rsP W P o = P o from rsF_y w])]
theorem WF.rs (hW : ∀ o, W o → ∀ k q, P o k = some q → W q) (h : WF K P J I) : WF (rsK W K) (rsP W P) (rsI W J) (rsI W I) := by
  refine ⟨fun o k => ?_, fun o k => ?_, fun o k q hq => ?_, fun o ho => ?_⟩
  · by_cases w : W o
    · rw [show rsI W I o = I o from rsF_y w]; exact h.1 o k
    · rw [show rsI W I o = _ from rsF_n w]; exact inR0
  · by_cases w : W o
    · rw [show rsI W J o = J o from rsF_y w]; exact h.2.1 o k
    · rw [show rsI W J o = _ from rsF_n w]; exact (show inJ 0 from ⟨by decide, by decide⟩)
  · by_cases w : W o
    · rw [show rsP W P o = P o from rsF_y w] at hq
      rw [show rsK W K q = K q from rsF_y (hW o w k q hq)]; exact h.2.2.1 o k q hq
    · rw [show rsP W P o = _ from rsF_n w] at hq; cases hq
  · by_cases w : W o
    · rw [show rsK W K o = K o from rsF_y w] at ho
      rw [show rsI W I o = I o from rsF_y w, show rsI W J o = J o from rsF_y w, show rsP W P o = P o from rsF_y w]; exact h.2.2.2 o ho
    · rw [show rsI W I o = _ from rsF_n w, show rsI W J o = _ from rsF_n w, show rsP W P o = _ from rsF_n w]; exact ⟨fun _ => rfl, fun _ => rfl, fun _ => rfl⟩
/-- the world behind a call over W, put together again -/
theorem fr_join {K1 : KT} {P1 : PT} {J1 I1 : IT} {ad1 : Nat → Nat} {dom1 : List Nat} {U t : State} (h9 : W 999) (hW : ∀ o, W o → ∀ k q, P o k = some q → W q) (hwf : WF K P J I) (hsz : U.heap.size = sz) (h : Rep D (AF ad K sz) ad dom K P J I U.heap) (w1 : WF K1 P1 J1 I1) (he : Ext ad (rsK W K) ad1 K1) (h1 : Rep D (AF ad (rsK W K) sz) ad1 dom1 K1 P1 J1 I1 t.heap) (hF : va_F (AF ad (rsK W K) sz) U t) (hno : ∀ o, (K o).isSome = true → ¬ W o → K1 o = none) :
    ∃ (K' : KT) (P' : PT) (J' I' : IT) (ad' : Nat → Nat) (dom' : List Nat), (∀ o, (K o).isSome = true → ¬ W o → K' o = K o ∧ P' o = P o ∧ J' o = J o ∧ I' o = I o) ∧ (∀ o, ¬ ((K o).isSome = true ∧ ¬ W o) → K' o = K1 o ∧ P' o = P1 o ∧ J' o = J1 o ∧ I' o = I1 o) ∧ (∀ v, WFv K1 v → WFv K' v ∧ cv ad' v = cv ad1 v) ∧ WF K' P' J' I' ∧ Ext ad K ad' K' ∧ Rep D (AF ad K sz) ad' dom' K' P' J' I' t.heap ∧ va_F (AF ad K sz) U t := by
  let T : Nat → Prop := fun o => (K o).isSome = true ∧ ¬ W o
  have hdec : ∀ o, Decidable (T o) := fun o => Classical.propDecidable _
  have n1 : ∀ o, (K1 o).isSome = true → ¬ T o := fun o ho q => by rw [hno o q.1 q.2] at ho; cases ho
  have oldK : ∀ o, (K o).isSome = true → ¬ T o → W o ∧ (rsK W K o).isSome = true ∧ (K1 o).isSome = true ∧ ad1 o = ad o := fun o ho q => by
    have w : W o := Classical.byContradiction (fun z => q ⟨ho, z⟩)
    have r : (rsK W K o).isSome = true := by rw [show rsK W K o = K o from rsF_y w]; exact ho
    exact ⟨w, r, he o r⟩
  refine ⟨fun o => if T o then K o else K1 o, fun o => if T o then P o else P1 o, fun o => if T o then J o else J1 o, fun o => if T o then I o else I1 o, fun o => if T o then ad o else ad1 o, dom.filter (fun o => decide (T o)) ++ dom1, ?_, ?_, ?_, ?_, ?_, ?_, ?_⟩
  · intro o h1 h2
    have q : T o := ⟨h1, h2⟩
    exact ⟨if_pos q, if_pos q, if_pos q, if_pos q⟩
  · intro o q
    exact ⟨if_neg q, if_neg q, if_neg q, if_neg q⟩
  · intro v hv
    rcases v with z | r | z
    · exact ⟨hv, rfl⟩
    · cases r with
      | none => exact ⟨(fun q e => by cases e), rfl⟩
      | some q =>
        have hq := hv q rfl
        refine ⟨fun q' e => ?_, ?_⟩
        · cases e
          show (if T q then K q else K1 q).isSome = true
          rw [if_neg (n1 q hq)]; exact hq
        · show Value.ref (if T q then ad q else ad1 q) = Value.ref (ad1 q)
          rw [if_neg (n1 q hq)]
    · exact ⟨hv, rfl⟩
  · refine ⟨fun o k => ?_, fun o k => ?_, fun o k q hq => ?_, fun o ho => ?_⟩
    · show inR ((if T o then I o else I1 o) k)
      split
      · exact hwf.1 o k
      · exact w1.1 o k
    · show inJ ((if T o then J o else J1 o) k)
      split
      · exact hwf.2.1 o k
      · exact w1.2.1 o k
    · show (if T q then K q else K1 q).isSome = true
      have hq' : (if T o then P o else P1 o) k = some q := hq
      by_cases r : T o
      · rw [if_pos r] at hq'
        have hs := hwf.2.2.1 o k q hq'
        split
        · exact hs
        · exact (oldK q hs (by assumption)).2.2.1
      · rw [if_neg r] at hq'
        have hs := w1.2.2.1 o k q hq'
        rw [if_neg (n1 q hs)]; exact hs
    · have ho' : (if T o then K o else K1 o) = none := ho
      by_cases r : T o
      · rw [if_pos r] at ho'
        have := r.1
        rw [ho'] at this; cases this
      · rw [if_neg r] at ho'
        show (∀ k, (if T o then I o else I1 o) k = 0) ∧ (∀ k, (if T o then J o else J1 o) k = 0) ∧ ∀ k, (if T o then P o else P1 o) k = none
        rw [if_neg r, if_neg r, if_neg r]
        exact w1.2.2.2 o ho'
  · intro o ho
    show (if T o then K o else K1 o).isSome = true ∧ (if T o then ad o else ad1 o) = ad o
    by_cases r : T o
    · rw [if_pos r, if_pos r]; exact ⟨ho, rfl⟩
    · rw [if_neg r, if_neg r]; exact ⟨(oldK o ho r).2.2.1, (oldK o ho r).2.2.2⟩
  · have far : ∀ o, T o → ¬ ou K o → ¬ AF ad (rsK W K) sz (ad o) := fun o r hn q => by
      rcases q with ⟨o', h2, -, h3⟩ | q
      · have := h.inj r.1 (rsK_some h2).2 h3
        exact r.2 (this ▸ (rsK_some h2).1)
      · have := h.lt r.1 hn
        rw [hsz] at this
        exact absurd q (Nat.not_le_of_lt this)
    have oT : ∀ o, T o → (ou (fun o => if T o then K o else K1 o) o ↔ ou K o) := fun o r => by
      unfold ou
      rw [show (fun o => if T o then K o else K1 o) o = K o from if_pos r]
    have oF : ∀ o, ¬ T o → (ou (fun o => if T o then K o else K1 o) o ↔ ou K1 o) := fun o r => by
      unfold ou
      rw [show (fun o => if T o then K o else K1 o) o = K1 o from if_neg r]
    have T9 : ¬ T 999 := fun z => z.2 h9
    have hO := h.2.1.2
    have hO1 := h1.2.1.2
    refine Rep.mk' ?_ ?_ ?_ ?_ ?_ ?_
    · rw [List.nodup_append]
      refine ⟨h.1.filter _, h1.1, fun x hx y hy e => ?_⟩
      subst e
      exact n1 x ((h1.2.1.1 x).mp hy).1 (of_decide_eq_true (List.mem_filter.mp hx).2)
    · intro o
      show _ ↔ (if T o then K o else K1 o).isSome = true ∧ _
      rw [List.mem_append, List.mem_filter, h.2.1.1 o, h1.2.1.1 o]
      by_cases r : T o
      · rw [oT o r, if_pos r]
        exact ⟨fun q => q.elim (fun q => q.1) (fun q => absurd r (n1 o q.1)), fun q => Or.inl ⟨q, decide_eq_true r⟩⟩
      · rw [oF o r, if_neg r]
        exact ⟨fun q => q.elim (fun q => absurd (of_decide_eq_true q.2) r) id, Or.inr⟩
    · refine ⟨⟨(if_neg T9).trans hO1.1.1, (if_neg T9).trans hO1.1.2⟩, fun o n e => ?_, hO.2.2.1, fun o q1 q2 => ?_⟩
      · have e' : (if T o then K o else K1 o) = some (14, n) := e
        show o = 49 ∧ (if T o then ad o else ad1 o) = _ ∧ _ ∧ ∀ j : Nat, Int32.ofInt ((if T o then I o else I1 o) (j : Int)) = _
        by_cases r : T o
        · rw [if_pos r] at e'
          rw [if_pos r, if_pos r]
          exact hO.2.1 o n e'
        · rw [if_neg r] at e'
          rw [if_neg r, if_neg r]
          exact hO1.2.1 o n e'
      · have q1' : (if T o then K o else K1 o).isSome = true := q1
        show (if T o then ad o else ad1 o) ≠ _ ∧ (if T o then ad o else ad1 o) ≠ _
        by_cases r : T o
        · rw [if_pos r]
          exact hO.2.2.2 o r.1 (fun z => q2 ((oT o r).mpr z))
        · rw [if_neg r] at q1'
          rw [if_neg r]
          exact hO1.2.2.2 o q1' (fun z => q2 ((oF o r).mpr z))
    · intro o kd hk hn
      have hk' : (if T o then K o else K1 o) = some kd := hk
      show va_at (D.1, D.2.1) classes ((if T o then ad o else ad1 o), _) t.heap
      by_cases r : T o
      · rw [if_pos r] at hk'
        rw [if_pos r]
        have e := ce_congr (D := D) (ad := ad) (ad' := fun o => if T o then ad o else ad1 o) (P := P) (J := J) (I := I) (P' := fun o => if T o then P o else P1 o) (J' := fun o => if T o then J o else J1 o) (I' := fun o => if T o then I o else I1 o) (o := o) kd (fun k => by simp only [if_pos r]) (fun k => by simp only [if_pos r]) (fun k => by
          simp only [if_pos r]
          cases hp : P o k with
          | none => rfl
          | some q =>
            have hs := hwf.2.2.1 o k q hp
            show some (if T q then ad q else ad1 q) = some (ad q)
            split
            · rfl
            · rw [(oldK q hs (by assumption)).2.2.2])
        rw [e]
        exact (h.va hk' (fun z => hn ((oT o r).mpr z))).kept (hF.2 _ (h.lt r.1 (fun z => hn ((oT o r).mpr z))) (far o r (fun z => hn ((oT o r).mpr z))))
      · rw [if_neg r] at hk'
        rw [if_neg r]
        have e := ce_congr (D := D) (ad := ad1) (ad' := fun o => if T o then ad o else ad1 o) (P := P1) (J := J1) (I := I1) (P' := fun o => if T o then P o else P1 o) (J' := fun o => if T o then J o else J1 o) (I' := fun o => if T o then I o else I1 o) (o := o) kd (fun k => by simp only [if_neg r]) (fun k => by simp only [if_neg r]) (fun k => by
          simp only [if_neg r]
          cases hp : P1 o k with
          | none => rfl
          | some q =>
            have hs := w1.2.2.1 o k q hp
            show some (if T q then ad q else ad1 q) = some (ad1 q)
            rw [if_neg (n1 q hs)])
        rw [e]
        exact h1.va hk' (fun z => hn ((oF o r).mpr z))
    · intro o o' ho hn ho' hn' e
      have g : ∀ o, (if T o then K o else K1 o).isSome = true → ¬ T o → (K1 o).isSome = true := fun o q r => by rw [if_neg r] at q; exact q
      have e' : (if T o then ad o else ad1 o) = (if T o' then ad o' else ad1 o') := e
      by_cases r : T o
      · by_cases r' : T o'
        · rw [if_pos r, if_pos r'] at e'; exact h.inj r.1 r'.1 e'
        · rw [if_pos r, if_neg r'] at e'
          exact absurd (e' ▸ h1.inA (g o' ho' r') (fun z => hn' ((oF o' r').mpr z))) (far o r (fun z => hn ((oT o r).mpr z)))
      · by_cases r' : T o'
        · rw [if_neg r, if_pos r'] at e'
          exact absurd (e' ▸ h1.inA (g o ho r) (fun z => hn ((oF o r).mpr z))) (far o' r' (fun z => hn' ((oT o' r').mpr z)))
        · rw [if_neg r, if_neg r'] at e'
          exact h1.inj (g o ho r) (g o' ho' r') e'
    · intro o ho hn
      show AF ad K sz (if T o then ad o else ad1 o)
      by_cases r : T o
      · rw [if_pos r]; exact Or.inl ⟨o, r.1, fun z => hn ((oT o r).mpr z), rfl⟩
      · rw [if_neg r]
        have ho' : (K1 o).isSome = true := by
          have z : (if T o then K o else K1 o).isSome = true := ho
          rwa [if_neg r] at z
        exact AF.rs (h1.inA ho' (fun z => hn ((oF o r).mpr z)))
  · exact ⟨hF.1, fun q h1 h2 => hF.2 q h1 (fun z => h2 (AF.rs z))⟩
end Frame
theorem Sp.frame {M : MD} {x : Bool} {R : Room} {Q : PQ} {K : KT} {P : PT} {J I : IT} {as : List AV} (W : Nat → Prop) (h9 : W 999) (hW : ∀ o, W o → ∀ k q, P o k = some q → W q) (has : ∀ v ∈ as, ∀ q, v = vR (some q) → W q) (hno : ∀ r K1 P1 J1 I1, Q r K1 P1 J1 I1 → ∀ o, (K o).isSome = true → ¬ W o → K1 o = none) (h : Sp M x R Q (rsK W K) (rsP W P) (rsI W J) (rsI W I) as) : Sp M x R (FrQ W Q K P J I) K P J I as := by
  intro l hst D ad dom sz hwf hws
  have hws1 : WFs (rsK W K) as := fun v hv => by
    have := hws v hv
    rcases v with z | r | z
    · exact this
    · intro q e
      subst e
      rw [show rsK W K q = K q from rsF_y (has _ hv q rfl)]; exact this q rfl
    · exact this
  have h0 := h l hst D ad (dom.filter (fun o => @decide (W o) (Classical.propDecidable _))) sz (hwf.rs hW) hws1
  have hp : ∀ a U, PcM D ad dom K P J I as sz a U → PcM D ad (dom.filter (fun o => @decide (W o) (Classical.propDecidable _))) (rsK W K) (rsP W P) (rsI W J) (rsI W I) as sz a U := fun a U ⟨q0, q1, q2, q3, q4, q5, q6, q7⟩ => ⟨q0, q1, q2.rs h9 hW, q3, q4.narrow (fun q hq => AF.rs hq), q5, by rw [show rsK W K 999 = K 999 from rsF_y h9]; exact q6, q7⟩
  have hq : ∀ a U o t, PcM D ad dom K P J I as sz a U → QN Q D ad (rsK W K) sz a U o t → QN (FrQ W Q K P J I) D ad K sz a U o t := by
    intro a U o t ⟨p0, p1, p2, p3, p4, p5, p6⟩ ⟨⟨r, K1, P1, J1, I1, ad1, dom1, ho, hQ, w1, wr, he, hR, hK⟩, hF⟩
    have no := hno _ _ _ _ _ hQ
    obtain ⟨K', P', J', I', ad', dom', j1, j2, j3, j4, j5, j6, j7⟩ := fr_join h9 hW hwf p1 p2 w1 he hR hF no
    refine ⟨⟨r, K', P', J', I', ad', dom', ?_, ⟨K1, P1, J1, I1, hQ, no, j1, j2⟩, j4, fun v e => (j3 v (wr v e)).1, j5, j6, hK⟩, j7⟩
    rw [ho]
    cases r with
    | none => rfl
    | some v => show Outcome.returned (some (cv ad1 v)) = .returned (some (cv ad' v)); rw [(j3 v (wr v rfl)).2]
  cases x with
  | true =>
    refine vx_Met.cons (show vx_Met l M.1 (wsM M) R _ _ _ R.cells R.slots _ from h0) hp hq ?_ (fun q hq => AF.rs hq)
    intro a U E t ⟨p0, p1, p2, p3, p4, p5, p6⟩ ⟨⟨K1, P1, J1, I1, ad1, dom1, hQ, w1, he, hR, hK⟩, hF⟩
    have no := hno _ _ _ _ _ hQ
    obtain ⟨K', P', J', I', ad', dom', j1, j2, j3, j4, j5, j6, j7⟩ := fr_join h9 hW hwf p1 p2 w1 he hR hF no
    exact ⟨⟨K', P', J', I', ad', dom', ⟨K1, P1, J1, I1, hQ, no, j1, j2⟩, j4, j5, j6, hK⟩, j7⟩
  | false => exact Met.cons (show Met l M.1 (wsM M) R _ _ R.cells R.slots _ from h0) hp hq (fun q hq => AF.rs hq)
/-- a weaker end -/
theorem Sp.weak {M : MD} {x : Bool} {R : Room} {Q Q' : PQ} {K : KT} {P : PT} {J I : IT} {as : List AV} (h : Sp M x R Q K P J I as) (hq : ∀ r K1 P1 J1 I1, Q r K1 P1 J1 I1 → Q' r K1 P1 J1 I1) : Sp M x R Q' K P J I as := by
  intro l hst D ad dom sz hwf hws
  have h0 := h l hst D ad dom sz hwf hws
  have hn : ∀ a U o t, PcM D ad dom K P J I as sz a U → QN Q D ad K sz a U o t → QN Q' D ad K sz a U o t := fun a U o t _ ⟨⟨r, K1, P1, J1, I1, ad1, dom1, ho, hQ, z⟩, hF⟩ => ⟨⟨r, K1, P1, J1, I1, ad1, dom1, ho, hq _ _ _ _ _ hQ, z⟩, hF⟩
  cases x with
  | true => exact vx_Met.cons (show vx_Met l M.1 (wsM M) R _ _ _ R.cells R.slots _ from h0) (fun _ _ q => q) hn (fun a U E t _ ⟨⟨K1, P1, J1, I1, ad1, dom1, hQ, z⟩, hF⟩ => ⟨⟨K1, P1, J1, I1, ad1, dom1, hq _ _ _ _ _ hQ, z⟩, hF⟩) (fun _ q => q)
  | false => exact Met.cons (show Met l M.1 (wsM M) R _ _ R.cells R.slots _ from h0) (fun _ _ q => q) hn (fun _ q => q)
