/-! the reference's findsBlock and prepare: the rows of leaves that aren't there stay as they were -/
section
variable {K : KT} {P : PT} {J I : IT} {Q : PQ}
def BJ (J I JT T : IT) (x : Int) (aL aJ aV dL dJ dV : List (Int × Int)) (p : PND) : Prop :=
  ((∀ (o : Nat) (q : Int), (o < 282 ∨ o = 284 ∨ o = 287 ∨ o = 288 ∨ 290 < o) → ¬ (o = 100 ∧ (q = 84 ∨ q = 88)) → T o q = I o q) ∧ (∀ (o : Nat) (q : Int), (o ≠ 287 ∨ q < 0 ∨ (dL.length : Int) ≤ q) → JT o q = J o q)) ∧
  (T 100 84 = dL.length ∧ T 100 88 = dJ.length) ∧ (holds T 285 286 dL ∧ holds T 289 290 dJ ∧ ∀ (i : Nat) (e : Int × Int), dL[i]? = some e → JT 287 i = lrOf I x e.1) ∧
  (∀ e ∈ dV, T 282 e.1 = e.2) ∧ (StP T p ∧ pOK I x p) ∧ (dL ++ pL I x p = aL ∧ dJ ++ pJ I x p = aJ ∧ dV ++ pV I x p = aV)
theorem BJ.inner {JT T : IT} {x k o : Int} {aL aJ aV dL dJ dV : List (Int × Int)} {f : Nat} {r : PND} (h : BJ J I JT T x aL aJ aV dL dJ dV ((f + 1, k, o) :: r)) (hnd : (aV.map Prod.fst).Nodup) (hi : mInner I (x + k)) :
    (I 279 k ≠ I 280 k ∧ I 279 k ≠ k ∧ I 280 k ≠ k) ∧ BJ J I JT (up2 (up2 (up2 (up2 (up2 (up2 (up2 T 282 (I 279 k) o) 282 (I 280 k) (o + I 281 (I 279 k))) 289 dJ.length (o + I 258 (x + k))) 290 dJ.length (o + I 281 (I 279 k) + I 259 (x + k))) 100 88 (dJ.length + 1)) 283 r.length (I 280 k)) 283 ((r.length : Int) + 1) (I 279 k)) x aL aJ aV dL (dJ ++ [(o + I 258 (x + k), o + I 281 (I 279 k) + I 259 (x + k))]) (dV ++ [(k, o)]) ((f, I 279 k, o) :: (f, I 280 k, o + I 281 (I 279 k)) :: r) := by
  obtain ⟨⟨f1, f2⟩, ⟨c1, c2⟩, ⟨hL, hJ, hR⟩, hV, ⟨hs, hp⟩, ⟨a1, a2, a3⟩⟩ := h
  have hk := hp (f + 1, k, o) List.mem_cons_self
  have hr : pOK I x r := fun e he => hp e (List.mem_cons_of_mem _ he)
  obtain ⟨-, q1, q2, o1, o2⟩ := hk.2.1 hi
  obtain ⟨t1, ht1⟩ := blkV_hd o1
  obtain ⟨t2, ht2⟩ := blkV_hd o2
  have eL : pL I x ((f + 1, k, o) :: r) = pL I x ((f, I 279 k, o) :: (f, I 280 k, o + I 281 (I 279 k)) :: r) := by
    show blkL I x (f + 1) k o ++ pL I x r = blkL I x f (I 279 k) o ++ (blkL I x f (I 280 k) (o + I 281 (I 279 k)) ++ pL I x r)
    rw [(blk_i hi).1, List.append_assoc]
  have eJ : pJ I x ((f + 1, k, o) :: r) = (o + I 258 (x + k), o + I 281 (I 279 k) + I 259 (x + k)) :: pJ I x ((f, I 279 k, o) :: (f, I 280 k, o + I 281 (I 279 k)) :: r) := by
    show blkJ I x (f + 1) k o ++ pJ I x r = _ :: (blkJ I x f (I 279 k) o ++ (blkJ I x f (I 280 k) (o + I 281 (I 279 k)) ++ pJ I x r))
    rw [(blk_i hi).2.1, List.cons_append, List.append_assoc]
  have eV : pV I x ((f + 1, k, o) :: r) = (k, o) :: (blkV I x f (I 279 k) o ++ (blkV I x f (I 280 k) (o + I 281 (I 279 k)) ++ pV I x r)) := by
    show blkV I x (f + 1) k o ++ pV I x r = _
    rw [(blk_i hi).2.2, List.cons_append, List.append_assoc]
  have nd := hnd
  rw [← a3] at nd
  have nd2 := nd_r nd
  rw [eV, ht1, ht2] at nd2
  have m1 : (I 279 k, o) ∈ pV I x ((f + 1, k, o) :: r) := by rw [eV, ht1]; simp
  have m2 : (I 280 k, o + I 281 (I 279 k)) ∈ pV I x ((f + 1, k, o) :: r) := by rw [eV, ht2]; simp
  have n12 : I 279 k ≠ I 280 k := fun e => by simp [e] at nd2
  have nk1 : I 279 k ≠ k := fun e => by simp [e] at nd2
  have nk2 : I 280 k ≠ k := fun e => by simp [e] at nd2
  have nr : ∀ e ∈ r, e.2.1 ≠ I 279 k ∧ e.2.1 ≠ I 280 k := fun e he => by
    have m := pV_mem hr he
    have w := nd_r nd
    rw [eV] at w
    have w2 := nd_r (A := [(k, o)]) w
    refine ⟨(nd_ne w2 (by rw [ht1]; exact List.mem_cons_self) (List.mem_append_right _ m)).symm, (nd_ne (nd_r w2) (by rw [ht2]; exact List.mem_cons_self) m).symm⟩
  have nv : ∀ e ∈ dV, e.1 ≠ I 279 k ∧ e.1 ≠ I 280 k := fun e he => ⟨nd_ne nd he m1, nd_ne nd he m2⟩
  generalize hone : o + I 258 (x + k) = one at *
  generalize htwo : o + I 281 (I 279 k) + I 259 (x + k) = two at *
  generalize hor : o + I 281 (I 279 k) = orr at *
  generalize I 279 k = lf at *
  generalize I 280 k = rt at *
  have lr : ((r.length : Nat) : Int) = (r.length : Int) := rfl
  refine ⟨⟨n12, nk1, nk2⟩, ⟨fun o' q h1 h2 => ?_, f2⟩, ⟨?_, ?_⟩, ⟨?_, ?_, hR⟩, fun e he => ?_, ⟨⟨⟨?_, ?_⟩, ⟨?_, ?_⟩, ?_⟩, fun e he => ?_⟩, ⟨by rw [← eL]; exact a1, by rw [← a2, eJ, List.append_assoc]; rfl, by rw [← a3, eV, List.append_assoc]; rfl⟩⟩
  · rw [show ∀ (X : IT) a b, up2 X 283 a b o' q = X o' q from fun X a b => if_neg (by omega), show ∀ (X : IT) a b, up2 X 283 a b o' q = X o' q from fun X a b => if_neg (by omega), show ∀ (X : IT) b, up2 X 100 88 b o' q = X o' q from fun X b => if_neg (by omega), show ∀ (X : IT) a b, up2 X 290 a b o' q = X o' q from fun X a b => if_neg (by omega), show ∀ (X : IT) a b, up2 X 289 a b o' q = X o' q from fun X a b => if_neg (by omega), show ∀ (X : IT) a b, up2 X 282 a b o' q = X o' q from fun X a b => if_neg (by omega), show ∀ (X : IT) a b, up2 X 282 a b o' q = X o' q from fun X a b => if_neg (by omega)]
    exact f1 o' q h1 h2
  · simp [up2]; exact c1
  · simp [up2]
  · exact hL.of (fun i _ => by simp [up2]) (fun i _ => by simp [up2])
  · have s := holds.snoc (T := up2 (up2 T 282 lf o) 282 rt orr) (a := 289) (b := 290) (L := dJ) (u := one) (v := two) (by decide) (hJ.of (fun i _ => by simp [up2]) (fun i _ => by simp [up2]))
    exact s.of (fun i _ => by simp [up2]) (fun i _ => by simp [up2])
  · rcases List.mem_append.1 he with z | z
    · have := nv e z
      simp [up2, this.1, this.2]
      exact hV e z
    · rw [List.mem_singleton.1 z]
      simp [up2, nk1.symm, nk2.symm]
      exact hs.1.2
  · show up2 _ 283 ((r.length : Int) + 1) lf 283 (((r.length + 1 : Nat) : Int)) = lf
    rw [show ((r.length + 1 : Nat) : Int) = (r.length : Int) + 1 by omega, up2_eq]
  · simp [up2, n12]
  · show up2 _ 283 ((r.length : Int) + 1) lf 283 ((r.length : Nat) : Int) = rt
    rw [up2_k _ _ _ _ (by omega), up2_eq]
  · simp [up2]
  · refine hs.2.of _ (fun q q0 q1 => ?_) (fun e he => ?_)
    · rw [up2_k _ _ _ _ (by omega), up2_k _ _ _ _ (by omega)]
      simp [up2]
    · have := nr e he
      simp [up2, this.1, this.2]
  · rcases List.mem_cons.1 he with z | z
    · rw [z]; exact o1
    · rcases List.mem_cons.1 z with z | z
      · rw [z]; exact o2
      · exact hr e z
theorem BJ.filter {JT T : IT} {x k o : Int} {aL aJ aV dL dJ dV : List (Int × Int)} {f : Nat} {r : PND} (h : BJ J I JT T x aL aJ aV dL dJ dV ((f + 1, k, o) :: r)) (hnd : (aV.map Prod.fst).Nodup) (hi : ¬ mInner I (x + k)) (hf : isFlt (I 256 (x + k))) :
    I 279 k ≠ k ∧ BJ J I JT (up2 (up2 T 282 (I 279 k) o) 283 r.length (I 279 k)) x aL aJ aV dL dJ (dV ++ [(k, o)]) ((f, I 279 k, o) :: r) := by
  obtain ⟨⟨f1, f2⟩, ⟨c1, c2⟩, ⟨hL, hJ, hR⟩, hV, ⟨hs, hp⟩, ⟨a1, a2, a3⟩⟩ := h
  have hk := hp (f + 1, k, o) List.mem_cons_self
  have hr : pOK I x r := fun e he => hp e (List.mem_cons_of_mem _ he)
  obtain ⟨q1, o1⟩ := hk.2.2.1 hi hf
  obtain ⟨t1, ht1⟩ := blkV_hd o1
  have eL : pL I x ((f + 1, k, o) :: r) = pL I x ((f, I 279 k, o) :: r) := by
    show blkL I x (f + 1) k o ++ pL I x r = blkL I x f (I 279 k) o ++ pL I x r
    rw [(blk_f hi hf).1]
  have eJ : pJ I x ((f + 1, k, o) :: r) = pJ I x ((f, I 279 k, o) :: r) := by
    show blkJ I x (f + 1) k o ++ pJ I x r = blkJ I x f (I 279 k) o ++ pJ I x r
    rw [(blk_f hi hf).2.1]
  have eV : pV I x ((f + 1, k, o) :: r) = (k, o) :: (blkV I x f (I 279 k) o ++ pV I x r) := by
    show blkV I x (f + 1) k o ++ pV I x r = _
    rw [(blk_f hi hf).2.2, List.cons_append]
  have nd := hnd
  rw [← a3] at nd
  have nd2 := nd_r nd
  rw [eV, ht1] at nd2
  have m1 : (I 279 k, o) ∈ pV I x ((f + 1, k, o) :: r) := by rw [eV, ht1]; simp
  have nk1 : I 279 k ≠ k := fun e => by simp [e] at nd2
  have nr : ∀ e ∈ r, e.2.1 ≠ I 279 k := fun e he => by
    have m := pV_mem hr he
    have w := nd_r nd
    rw [eV] at w
    have w2 := nd_r (A := [(k, o)]) w
    exact (nd_ne w2 (by rw [ht1]; exact List.mem_cons_self) m).symm
  have nv : ∀ e ∈ dV, e.1 ≠ I 279 k := fun e he => nd_ne nd he m1
  generalize I 279 k = lf at *
  refine ⟨nk1, ⟨fun o' q h1 h2 => ?_, f2⟩, ⟨?_, ?_⟩, ⟨?_, ?_, hR⟩, fun e he => ?_, ⟨⟨⟨?_, ?_⟩, ?_⟩, fun e he => ?_⟩, ⟨by rw [← eL]; exact a1, by rw [← eJ]; exact a2, by rw [← a3, eV, List.append_assoc]; rfl⟩⟩
  · rw [show ∀ (X : IT) a b, up2 X 283 a b o' q = X o' q from fun X a b => if_neg (by omega), show ∀ (X : IT) a b, up2 X 282 a b o' q = X o' q from fun X a b => if_neg (by omega)]
    exact f1 o' q h1 h2
  · simp [up2]; exact c1
  · simp [up2]; exact c2
  · exact hL.of (fun i _ => by simp [up2]) (fun i _ => by simp [up2])
  · exact hJ.of (fun i _ => by simp [up2]) (fun i _ => by simp [up2])
  · rcases List.mem_append.1 he with z | z
    · have := nv e z
      simp [up2, this]
      exact hV e z
    · rw [List.mem_singleton.1 z]
      simp [up2, nk1.symm]
      exact hs.1.2
  · exact up2_eq _ _ _ _
  · simp [up2]
  · refine hs.2.of _ (fun q q0 q1 => ?_) (fun e he => ?_)
    · rw [up2_k _ _ _ _ (by omega)]
      simp [up2]
    · have := nr e he
      simp [up2, this]
  · rcases List.mem_cons.1 he with z | z
    · rw [z]; exact o1
    · exact hr e z
theorem BJ.leaf {JT T : IT} {x k o : Int} {aL aJ aV dL dJ dV : List (Int × Int)} {f : Nat} {r : PND} (h : BJ J I JT T x aL aJ aV dL dJ dV ((f + 1, k, o) :: r)) (hi : ¬ mInner I (x + k)) (hf : ¬ isFlt (I 256 (x + k))) :
    BJ J I (up2 JT 287 dL.length (lrOf I x k)) (up2 (up2 (up2 T 285 dL.length k) 286 dL.length o) 100 84 (dL.length + 1)) x aL aJ aV (dL ++ [(k, o)]) dJ (dV ++ [(k, o)]) r := by
  obtain ⟨⟨f1, f2⟩, ⟨c1, c2⟩, ⟨hL, hJ, hR⟩, hV, ⟨hs, hp⟩, ⟨a1, a2, a3⟩⟩ := h
  have hr : pOK I x r := fun e he => hp e (List.mem_cons_of_mem _ he)
  have eL : pL I x ((f + 1, k, o) :: r) = (k, o) :: pL I x r := by
    show blkL I x (f + 1) k o ++ pL I x r = _
    rw [(blk_l hi hf).1]; rfl
  have eJ : pJ I x ((f + 1, k, o) :: r) = pJ I x r := by
    show blkJ I x (f + 1) k o ++ pJ I x r = _
    rw [(blk_l hi hf).2.1]; rfl
  have eV : pV I x ((f + 1, k, o) :: r) = (k, o) :: pV I x r := by
    show blkV I x (f + 1) k o ++ pV I x r = _
    rw [(blk_l hi hf).2.2]; rfl
  refine ⟨⟨fun o' q h1 h2 => ?_, fun o' q h1 => by
    have l1 : ((dL ++ [(k, o)]).length : Int) = dL.length + 1 := by rw [List.length_append]; rfl
    rw [l1] at h1
    have e1 : up2 JT 287 dL.length (lrOf I x k) o' q = JT o' q := if_neg (fun z => by omega)
    exact e1.trans (f2 o' q (by omega))⟩, ⟨?_, ?_⟩, ⟨?_, ?_, fun i e he => ?_⟩, fun e he => ?_, ⟨hs.2.of _ (fun q q0 q1 => by simp [up2]) (fun e he => by simp [up2]), hr⟩, ⟨by rw [← a1, eL, List.append_assoc]; rfl, by rw [← eJ]; exact a2, by rw [← a3, eV, List.append_assoc]; rfl⟩⟩
  · rw [show ∀ (X : IT) b, up2 X 100 84 b o' q = X o' q from fun X b => if_neg (by omega), show ∀ (X : IT) a b, up2 X 286 a b o' q = X o' q from fun X a b => if_neg (by omega), show ∀ (X : IT) a b, up2 X 285 a b o' q = X o' q from fun X a b => if_neg (by omega)]
    exact f1 o' q h1 h2
  · simp [up2]
  · simp [up2]; exact c2
  · have s := holds.snoc (T := T) (a := 285) (b := 286) (L := dL) (u := k) (v := o) (by decide) hL
    exact s.of (fun i _ => by simp [up2]) (fun i _ => by simp [up2])
  · exact hJ.of (fun i _ => by simp [up2]) (fun i _ => by simp [up2])
  · by_cases z : i < dL.length
    · rw [List.getElem?_append_left z] at he
      rw [up2_k _ _ _ _ (by omega)]
      exact hR i e he
    · rw [List.getElem?_append_right (by omega)] at he
      by_cases h0 : i - dL.length = 0
      · rw [h0] at he
        have e1 : (k, o) = e := Option.some.inj he
        have ei : i = dL.length := by omega
        subst ei e1
        exact up2_eq _ _ _ _
      · rw [List.getElem?_eq_none (by simp; omega)] at he
        cases he
  · rcases List.mem_append.1 he with z | z
    · simp [up2]; exact hV e z
    · rw [List.mem_singleton.1 z]
      simp [up2]; exact hs.1.2
theorem sp_Model_findsBlock2 {q first : Int} {n : Nat} (hM : MW K P) (hq : 0 ≤ q ∧ q < 20) (hOK : blkOK I (12 * (q + 1)) n first 0) (hnd : ((blkV I (12 * (q + 1)) n first 0).map Prod.fst).Nodup) (hl : (blkL I (12 * (q + 1)) n first 0).length ≤ 3) (hj : (blkJ I (12 * (q + 1)) n first 0).length ≤ 11) : Sp m_Model_findsBlock false (rmv 2 42) (exW K P (.inl none) (fun J' U => BJ J I J' U (12 * (q + 1)) (blkL I (12 * (q + 1)) n first 0) (blkJ I (12 * (q + 1)) n first 0) (blkV I (12 * (q + 1)) n first 0) (blkL I (12 * (q + 1)) n first 0) (blkJ I (12 * (q + 1)) n first 0) (blkV I (12 * (q + 1)) n first 0) [])) K P J I [vR (some 100), vI q, vI first] := by
  refine Sp.ofV (by decide) (Or.inr rfl) rfl ?_
  have loop : ∀ (l : Nat) (p : PND) (dL dJ dV : List (Int × Int)) (JT T : IT), (pV I (12 * (q + 1)) p).length ≤ l → BJ J I JT T (12 * (q + 1)) (blkL I (12 * (q + 1)) n first 0) (blkJ I (12 * (q + 1)) n first 0) (blkV I (12 * (q + 1)) n first 0) dL dJ dV p → VW m_Model_findsBlock false (rmv 2 42) (exW K P (.inl none) (fun J' U => BJ J I J' U (12 * (q + 1)) (blkL I (12 * (q + 1)) n first 0) (blkJ I (12 * (q + 1)) n first 0) (blkV I (12 * (q + 1)) n first 0) (blkL I (12 * (q + 1)) n first 0) (blkJ I (12 * (q + 1)) n first 0) (blkV I (12 * (q + 1)) n first 0) [])) K P JT T 0 0 26 [(0, vR (some 100)), (1, vI q), (2, vI first), (3, vI (p.length : Int))] [] := by
    intro l
    induction l with
    | zero =>
      intro p dL dJ dV JT T hlen h
      obtain ⟨h1, h2, h3, h4, h5, a1, a2, a3⟩ := h
      cases p with
      | nil =>
        have fin : BJ J I JT T (12 * (q + 1)) (blkL I (12 * (q + 1)) n first 0) (blkJ I (12 * (q + 1)) n first 0) (blkV I (12 * (q + 1)) n first 0) (blkL I (12 * (q + 1)) n first 0) (blkJ I (12 * (q + 1)) n first 0) (blkV I (12 * (q + 1)) n first 0) [] := by
          have b1 : dL = _ := (List.append_nil dL).symm.trans a1
          have b2 : dJ = _ := (List.append_nil dJ).symm.trans a2
          have b3 : dV = _ := (List.append_nil dV).symm.trans a3
          rw [b1] at h1 h2 h3
          rw [b2] at h2 h3
          rw [b3] at h4
          exact ⟨h1, h2, h3, h4, h5, List.append_nil _, List.append_nil _, List.append_nil _⟩
        rw [show (((([] : PND).length : Nat)) : Int) = 0 from rfl]
        clear h1 h2 h3 h4 h5 a1 a2 a3
        refine VW.iload_n (pc' := 27) d_Model_findsBlock_26 rfl rfl ?_
        refine VW.if_le (tgt := 342) (pc' := 30) d_Model_findsBlock_27 rfl rfl (fun c27 => ?_) (fun c27 => ?_)
        · exact VW.vret d_Model_findsBlock_342 rfl (Nat.zero_le _) (Nat.zero_le _) (exW_mk fin)
        · exfalso; omega
      | cons e r =>
        exfalso
        have m := pV_mem h5.2 (e := e) List.mem_cons_self
        have := List.length_pos_of_mem m
        omega
    | succ l ih =>
      intro p dL dJ dV JT T hlen h
      cases p with
      | nil =>
        have := ih [] dL dJ dV JT T (Nat.zero_le _) h
        exact this
      | cons e r =>
        obtain ⟨f', k, o⟩ := e
        cases f' with
        | zero => exact (h.2.2.2.2.1.2 (0, k, o) List.mem_cons_self).elim
        | succ f =>
          have hp := h.2.2.2.2.1.2
          have hk : blkOK I (12 * (q + 1)) (f + 1) k o := hp (f + 1, k, o) List.mem_cons_self
          have hr : pOK I (12 * (q + 1)) r := fun e he => hp e (List.mem_cons_of_mem _ he)
          have fr := h.1.1
          have st := h.2.2.2.2.1.1
          obtain ⟨c1, c2⟩ := h.2.1
          have all := h.2.2.2.2.2
          have g : ∀ (o : Nat) (z : Int), o < 282 → o ≠ 100 → T o z = I o z := fun o z h1 h2 => fr o z (Or.inl h1) (fun y => h2 y.1)
          have g291 : ∀ z : Int, T 291 z = I 291 z := fun z => fr 291 z (by omega) (by omega)
          have lenP := pL_len (I := I) (x := (12 * (q + 1))) _ hp
          have lenA := congrArg List.length all.1
          have lenJ := congrArg List.length all.2.1
          rw [List.length_append] at lenA lenJ
          have len : (((f + 1, k, o) :: r : PND).length : Int) = (r.length : Int) + 1 := by show ((r.length + 1 : Nat) : Int) = _; omega
          have lenN : ((f + 1, k, o) :: r : PND).length = r.length + 1 := rfl
          rw [lenN] at lenP
          have dec : (pV I (12 * (q + 1)) r).length + 1 ≤ l + 1 := by
            obtain ⟨t, ht⟩ := blkV_hd hk
            have e : pV I (12 * (q + 1)) ((f + 1, k, o) :: r) = blkV I (12 * (q + 1)) (f + 1) k o ++ pV I (12 * (q + 1)) r := rfl
            rw [e, ht, List.length_append] at hlen
            simp at hlen; omega
          have nI : mInner I ((12 * (q + 1)) + k) → (I 279 k ≠ I 280 k ∧ I 279 k ≠ k ∧ I 280 k ≠ k) ∧ VW m_Model_findsBlock false (rmv 2 42) (exW K P (.inl none) (fun J' U => BJ J I J' U (12 * (q + 1)) (blkL I (12 * (q + 1)) n first 0) (blkJ I (12 * (q + 1)) n first 0) (blkV I (12 * (q + 1)) n first 0) (blkL I (12 * (q + 1)) n first 0) (blkJ I (12 * (q + 1)) n first 0) (blkV I (12 * (q + 1)) n first 0) [])) K P JT (up2 (up2 (up2 (up2 (up2 (up2 (up2 T 282 (I 279 k) o) 282 (I 280 k) (o + I 281 (I 279 k))) 289 dJ.length (o + I 258 ((12 * (q + 1)) + k))) 290 dJ.length (o + I 281 (I 279 k) + I 259 ((12 * (q + 1)) + k))) 100 88 (dJ.length + 1)) 283 r.length (I 280 k)) 283 ((r.length : Int) + 1) (I 279 k)) 0 0 26 [(0, vR (some 100)), (1, vI q), (2, vI first), (3, vI ((r.length : Int) + 2))] [] := fun z => by
            obtain ⟨z1, z2⟩ := h.inner hnd z
            have z3 := ih _ _ _ _ _ _ (by
              have e1 : pV I (12 * (q + 1)) ((f + 1, k, o) :: r) = (k, o) :: pV I (12 * (q + 1)) ((f, I 279 k, o) :: (f, I 280 k, o + I 281 (I 279 k)) :: r) := by
                show blkV I (12 * (q + 1)) (f + 1) k o ++ pV I (12 * (q + 1)) r = _ :: (blkV I (12 * (q + 1)) f (I 279 k) o ++ (blkV I (12 * (q + 1)) f (I 280 k) (o + I 281 (I 279 k)) ++ pV I (12 * (q + 1)) r))
                rw [(blk_i z).2.2, List.cons_append, List.append_assoc]
              rw [e1, List.length_cons] at hlen; omega) z2
            rw [show ((((f, I 279 k, o) :: (f, I 280 k, o + I 281 (I 279 k)) :: r : PND).length : Nat) : Int) = (r.length : Int) + 2 by show ((r.length + 1 + 1 : Nat) : Int) = _; omega] at z3
            exact ⟨z1, z3⟩
          have nF : ¬ mInner I ((12 * (q + 1)) + k) → isFlt (I 256 ((12 * (q + 1)) + k)) → I 279 k ≠ k ∧ VW m_Model_findsBlock false (rmv 2 42) (exW K P (.inl none) (fun J' U => BJ J I J' U (12 * (q + 1)) (blkL I (12 * (q + 1)) n first 0) (blkJ I (12 * (q + 1)) n first 0) (blkV I (12 * (q + 1)) n first 0) (blkL I (12 * (q + 1)) n first 0) (blkJ I (12 * (q + 1)) n first 0) (blkV I (12 * (q + 1)) n first 0) [])) K P JT (up2 (up2 T 282 (I 279 k) o) 283 r.length (I 279 k)) 0 0 26 [(0, vR (some 100)), (1, vI q), (2, vI first), (3, vI ((r.length : Int) + 1))] [] := fun z y => by
            obtain ⟨z1, z2⟩ := h.filter hnd z y
            have z3 := ih _ _ _ _ _ _ (by
              have e1 : pV I (12 * (q + 1)) ((f + 1, k, o) :: r) = (k, o) :: pV I (12 * (q + 1)) ((f, I 279 k, o) :: r) := by
                show blkV I (12 * (q + 1)) (f + 1) k o ++ pV I (12 * (q + 1)) r = _ :: (blkV I (12 * (q + 1)) f (I 279 k) o ++ pV I (12 * (q + 1)) r)
                rw [(blk_f z y).2.2, List.cons_append]
              rw [e1, List.length_cons] at hlen; omega) z2
            rw [show ((((f, I 279 k, o) :: r : PND).length : Nat) : Int) = (r.length : Int) + 1 by show ((r.length + 1 : Nat) : Int) = _; omega] at z3
            exact ⟨z1, z3⟩
          have nL : ¬ mInner I ((12 * (q + 1)) + k) → ¬ isFlt (I 256 ((12 * (q + 1)) + k)) → ∀ v, v = lrOf I (12 * (q + 1)) k → VW m_Model_findsBlock false (rmv 2 42) (exW K P (.inl none) (fun J' U => BJ J I J' U (12 * (q + 1)) (blkL I (12 * (q + 1)) n first 0) (blkJ I (12 * (q + 1)) n first 0) (blkV I (12 * (q + 1)) n first 0) (blkL I (12 * (q + 1)) n first 0) (blkJ I (12 * (q + 1)) n first 0) (blkV I (12 * (q + 1)) n first 0) [])) K P (up2 JT 287 dL.length v) (up2 (up2 (up2 T 285 dL.length k) 286 dL.length o) 100 84 (dL.length + 1)) 0 0 26 [(0, vR (some 100)), (1, vI q), (2, vI first), (3, vI (r.length : Int))] [] := fun z y v hv => by
            rw [hv]
            exact ih _ _ _ _ _ _ (by omega) (h.leaf z y)
          have LJ : mInner I ((12 * (q + 1)) + k) → dJ.length + 1 ≤ 11 := fun z => by
            have : (pJ I (12 * (q + 1)) ((f + 1, k, o) :: r)).length = (blkJ I (12 * (q + 1)) (f + 1) k o ++ pJ I (12 * (q + 1)) r).length := rfl
            rw [this, (blk_i z).2.1, List.length_append, List.length_cons] at lenJ
            omega
          have kI := hk.2.1
          have kF := hk.2.2.1
          have kL := hk.2.2.2
          have k0 : (0 ≤ k ∧ k < 12) ∧ (0 ≤ o ∧ o ≤ 20) := hk.1
          obtain ⟨⟨s1, s2⟩, -⟩ := st
          have mi : Sp m_Model_isInner false (rmv 1 20) (ex K P JT T (.inl (some (vI (bI (mInner I ((12 * (q + 1)) + k))))))) K P JT T [vR (some 100), vI q, vI k] := by
            have h := sp_Model_isInner (K := K) (P := P) (J := JT) (I := T) (q := q) (n := k) hM hq k0.1
            rw [show mInner T (12 * (q + 1) + k) = mInner I (12 * (q + 1) + k) from by unfold mInner; rw [g 256 _ (by decide) (by decide), g 257 _ (by decide) (by decide)]] at h
            exact h
          have lenB : (r.length : Int) ≤ 2 ∧ (dL.length : Int) ≤ 2 := by omega
          rw [len]
          clear ih h hp hk hr fr all hnd hl hj hlen dec hOK lenJ
          have s2' : T 282 k = o := s2
          have s1' : T 283 r.length = k := s1
          have g279 := g 279 k (by decide) (by decide)
          have g280 := g 280 k (by decide) (by decide)
          have g281 := g 281 (I 279 k) (by decide) (by decide)
          have g256 := g 256 ((12 * (q + 1)) + k) (by decide) (by decide)
          have g257 := g 257 ((12 * (q + 1)) + k) (by decide) (by decide)
          have g258 := g 258 ((12 * (q + 1)) + k) (by decide) (by decide)
          have g259 := g 259 ((12 * (q + 1)) + k) (by decide) (by decide)
          clear s1 s2 g
          have e0 : (r.length : Int) + 1 + -1 = r.length := by omega
          have e1 : (r.length : Int) + 2 = (r.length : Int) + 1 + -1 + 2 := by omega
          have e2 : (r.length : Int) + 1 = (r.length : Int) + 1 + -1 + 1 := by omega
          refine VW.iload_n (pc' := 27) d_Model_findsBlock_26 rfl rfl ?_
          refine VW.if_le (tgt := 342) (pc' := 30) d_Model_findsBlock_27 rfl rfl (fun c27 => ?_) (fun c27 => ?_)
          · exfalso; omega
          · refine VW.iinc (pc' := 33) d_Model_findsBlock_30 rfl rfl rfl (by omega) ?_
            rw [e0]
            refine VW.aload_n (pc' := 34) d_Model_findsBlock_33 rfl rfl ?_
            refine VW.gP (ci := 11) (T := T11) (N := 94) (k := 83) (k' := 83) (pc' := 37) d_Model_findsBlock_34 rfl lk_Model_206 in11 rfl rfl rfl rfl (hM.k rfl) (hM.p (r := some 283) 83 rfl rfl) ?_
            refine VW.iload_n (pc' := 38) d_Model_findsBlock_37 rfl rfl ?_
            refine VW.ild (pc' := 39) d_Model_findsBlock_38 rfl (hM.k rfl) (by omega) (by omega) (by first | exact s1' | exact g279 | exact g256 | exact s2' | exact c1 | exact r3 | exact r4 | exact r5 | exact r6 | exact r7 | exact r8 | exact r9 | exact r10 | exact r11 | exact r12 | exact r13 | exact r14 | exact r15 | exact r16 | exact r17 | exact u1 | exact u2 | exact u3 | exact u4 | exact u5 | exact u6 | rfl) ?_
            refine VW.istore (pc' := 41) d_Model_findsBlock_39 rfl rfl ?_
            refine VW.iload_n (pc' := 42) d_Model_findsBlock_41 rfl rfl ?_
            refine VW.cS (pc' := 45) d_Model_findsBlock_42 rfl ms_Model_base lk_Model_431 rfl rfl rfl (Nat.le_refl _) (Nat.le_refl _) (sp_Model_base (by omega)) rfl rfl ?_
            refine VW.iload (pc' := 47) d_Model_findsBlock_45 rfl rfl ?_
            refine VW.iadd (pc' := 48) d_Model_findsBlock_47 rfl (by omega) ?_
            refine VW.istore (pc' := 50) d_Model_findsBlock_48 rfl rfl ?_
            refine VW.aload_n (pc' := 51) d_Model_findsBlock_50 rfl rfl ?_
            refine VW.iload_n (pc' := 52) d_Model_findsBlock_51 rfl rfl ?_
            refine VW.iload (pc' := 54) d_Model_findsBlock_52 rfl rfl ?_
            refine VW.cV (ci := 11) (T := T11) (N := 94) (pc' := 57) d_Model_findsBlock_54 rfl mv_Model_isInner lk_Model_507 rfl (hM.k rfl) rfl rfl rfl (Nat.le_refl _) (Nat.le_refl _) (mi) rfl rfl ?_
            refine VW.if_eq (tgt := 213) (pc' := 60) d_Model_findsBlock_57 rfl rfl (fun c57 => ?_) (fun c57 => ?_)
            · try have e57 := bIe c57
              refine VW.aload_n (pc' := 214) d_Model_findsBlock_213 rfl rfl ?_
              refine VW.gP (ci := 11) (T := T11) (N := 94) (k := 56) (k' := 56) (pc' := 217) d_Model_findsBlock_214 rfl lk_Model_144 in11 rfl rfl rfl rfl (hM.k rfl) (hM.p (r := some 256) 56 rfl rfl) ?_
              refine VW.iload (pc' := 219) d_Model_findsBlock_217 rfl rfl ?_
              refine VW.ild (pc' := 220) d_Model_findsBlock_219 rfl (hM.k rfl) (by omega) (by omega) (by first | exact s1' | exact g279 | exact g256 | exact s2' | exact c1 | exact r3 | exact r4 | exact r5 | exact r6 | exact r7 | exact r8 | exact r9 | exact r10 | exact r11 | exact r12 | exact r13 | exact r14 | exact r15 | exact r16 | exact r17 | exact u1 | exact u2 | exact u3 | exact u4 | exact u5 | exact u6 | rfl) ?_
              refine VW.cS (pc' := 223) d_Model_findsBlock_220 rfl ms_Model_isFilter lk_Model_504 rfl rfl rfl (Nat.le_refl _) (Nat.le_refl _) (sp_Model_isFilter) rfl rfl ?_
              refine VW.if_eq (tgt := 264) (pc' := 226) d_Model_findsBlock_223 rfl rfl (fun c223 => ?_) (fun c223 => ?_)
              · try have e223 := bIe c223
                have nx := nL e57 e223
                have w2 := kL e57 e223
                clear nI nF nL kI kF kL LJ mi
                have u1 : (up2 T 285 dL.length k) 100 84 = dL.length := by simp [up2, c1]
                have u2 : (up2 T 285 dL.length k) 282 k = o := by simp [up2, s2']
                have u3 : (up2 (up2 T 285 dL.length k) 286 dL.length o) 100 84 = dL.length := by simp [up2, c1]
                have u4 : (up2 (up2 T 285 dL.length k) 286 dL.length o) 256 ((12 * (q + 1)) + k) = I 256 ((12 * (q + 1)) + k) := by simp [up2, g256]
                have u5 : (up2 (up2 T 285 dL.length k) 286 dL.length o) 257 ((12 * (q + 1)) + k) = I 257 ((12 * (q + 1)) + k) := by simp [up2, g257]
                have u6 : (up2 (up2 T 285 dL.length k) 286 dL.length o) 291 (I 257 ((12 * (q + 1)) + k)) = I 291 (I 257 ((12 * (q + 1)) + k)) := by simp [up2, g291]
                refine VW.aload_n (pc' := 265) d_Model_findsBlock_264 rfl rfl ?_
                refine VW.gP (ci := 11) (T := T11) (N := 94) (k := 85) (k' := 85) (pc' := 268) d_Model_findsBlock_265 rfl lk_Model_209 in11 rfl rfl rfl rfl (hM.k rfl) (hM.p (r := some 285) 85 rfl rfl) ?_
                refine VW.aload_n (pc' := 269) d_Model_findsBlock_268 rfl rfl ?_
                refine VW.gI (ci := 11) (T := T11) (N := 94) (k := 84) (k' := 84) (pc' := 272) d_Model_findsBlock_269 rfl lk_Model_510 in11 rfl rfl rfl rfl (hM.k rfl) (by first | exact s1' | exact g279 | exact g256 | exact s2' | exact c1 | exact r3 | exact r4 | exact r5 | exact r6 | exact r7 | exact r8 | exact r9 | exact r10 | exact r11 | exact r12 | exact r13 | exact r14 | exact r15 | exact r16 | exact r17 | exact u1 | exact u2 | exact u3 | exact u4 | exact u5 | exact u6 | rfl) ?_
                refine VW.iload (pc' := 274) d_Model_findsBlock_272 rfl rfl ?_
                refine VW.iast (pc' := 275) d_Model_findsBlock_274 rfl (hM.k rfl) (by omega) (by omega) ?_
                refine VW.aload_n (pc' := 276) d_Model_findsBlock_275 rfl rfl ?_
                refine VW.gP (ci := 11) (T := T11) (N := 94) (k := 86) (k' := 86) (pc' := 279) d_Model_findsBlock_276 rfl lk_Model_212 in11 rfl rfl rfl rfl (hM.k rfl) (hM.p (r := some 286) 86 rfl rfl) ?_
                refine VW.aload_n (pc' := 280) d_Model_findsBlock_279 rfl rfl ?_
                refine VW.gI (ci := 11) (T := T11) (N := 94) (k := 84) (k' := 84) (pc' := 283) d_Model_findsBlock_280 rfl lk_Model_510 in11 rfl rfl rfl rfl (hM.k rfl) (by first | exact s1' | exact g279 | exact g256 | exact s2' | exact c1 | exact r3 | exact r4 | exact r5 | exact r6 | exact r7 | exact r8 | exact r9 | exact r10 | exact r11 | exact r12 | exact r13 | exact r14 | exact r15 | exact r16 | exact r17 | exact u1 | exact u2 | exact u3 | exact u4 | exact u5 | exact u6 | rfl) ?_
                refine VW.aload_n (pc' := 284) d_Model_findsBlock_283 rfl rfl ?_
                refine VW.gP (ci := 11) (T := T11) (N := 94) (k := 82) (k' := 82) (pc' := 287) d_Model_findsBlock_284 rfl lk_Model_203 in11 rfl rfl rfl rfl (hM.k rfl) (hM.p (r := some 282) 82 rfl rfl) ?_
                refine VW.iload (pc' := 289) d_Model_findsBlock_287 rfl rfl ?_
                refine VW.ild (pc' := 290) d_Model_findsBlock_289 rfl (hM.k rfl) (by omega) (by omega) (by first | exact s1' | exact g279 | exact g256 | exact s2' | exact c1 | exact r3 | exact r4 | exact r5 | exact r6 | exact r7 | exact r8 | exact r9 | exact r10 | exact r11 | exact r12 | exact r13 | exact r14 | exact r15 | exact r16 | exact r17 | exact u1 | exact u2 | exact u3 | exact u4 | exact u5 | exact u6 | rfl) ?_
                refine VW.iast (pc' := 291) d_Model_findsBlock_290 rfl (hM.k rfl) (by omega) (by omega) ?_
                refine VW.aload_n (pc' := 292) d_Model_findsBlock_291 rfl rfl ?_
                refine VW.gP (ci := 11) (T := T11) (N := 94) (k := 87) (k' := 87) (pc' := 295) d_Model_findsBlock_292 rfl lk_Model_215 in11 rfl rfl rfl rfl (hM.k rfl) (hM.p (r := some 287) 87 rfl rfl) ?_
                refine VW.aload_n (pc' := 296) d_Model_findsBlock_295 rfl rfl ?_
                refine VW.gI (ci := 11) (T := T11) (N := 94) (k := 84) (k' := 84) (pc' := 299) d_Model_findsBlock_296 rfl lk_Model_510 in11 rfl rfl rfl rfl (hM.k rfl) (by first | exact s1' | exact g279 | exact g256 | exact s2' | exact c1 | exact r3 | exact r4 | exact r5 | exact r6 | exact r7 | exact r8 | exact r9 | exact r10 | exact r11 | exact r12 | exact r13 | exact r14 | exact r15 | exact r16 | exact r17 | exact u1 | exact u2 | exact u3 | exact u4 | exact u5 | exact u6 | rfl) ?_
                refine VW.aload_n (pc' := 300) d_Model_findsBlock_299 rfl rfl ?_
                refine VW.gP (ci := 11) (T := T11) (N := 94) (k := 56) (k' := 56) (pc' := 303) d_Model_findsBlock_300 rfl lk_Model_144 in11 rfl rfl rfl rfl (hM.k rfl) (hM.p (r := some 256) 56 rfl rfl) ?_
                refine VW.iload (pc' := 305) d_Model_findsBlock_303 rfl rfl ?_
                refine VW.ild (pc' := 306) d_Model_findsBlock_305 rfl (hM.k rfl) (by omega) (by omega) (by first | exact s1' | exact g279 | exact g256 | exact s2' | exact c1 | exact r3 | exact r4 | exact r5 | exact r6 | exact r7 | exact r8 | exact r9 | exact r10 | exact r11 | exact r12 | exact r13 | exact r14 | exact r15 | exact r16 | exact r17 | exact u1 | exact u2 | exact u3 | exact u4 | exact u5 | exact u6 | rfl) ?_
                refine VW.if_ne (tgt := 325) (pc' := 309) d_Model_findsBlock_306 rfl rfl (fun c306 => ?_) (fun c306 => ?_)
                · try have e306 := bIn c306
                  refine VW.ldc2 (pc' := 328) (z := 10) d_Model_findsBlock_325 rfl lk_Model_515 (by decide) (by decide) ?_
                  refine VW.last (pc' := 329) d_Model_findsBlock_328 rfl (hM.k rfl) (by omega) (by omega) ?_
                  refine VW.aload_n (pc' := 330) d_Model_findsBlock_329 rfl rfl ?_
                  refine VW.dup (pc' := 331) d_Model_findsBlock_330 rfl rfl ?_
                  refine VW.gI (ci := 11) (T := T11) (N := 94) (k := 84) (k' := 84) (pc' := 334) d_Model_findsBlock_331 rfl lk_Model_510 in11 rfl rfl rfl rfl (hM.k rfl) (by first | exact s1' | exact g279 | exact g256 | exact s2' | exact c1 | exact r3 | exact r4 | exact r5 | exact r6 | exact r7 | exact r8 | exact r9 | exact r10 | exact r11 | exact r12 | exact r13 | exact r14 | exact r15 | exact r16 | exact r17 | exact u1 | exact u2 | exact u3 | exact u4 | exact u5 | exact u6 | rfl) ?_
                  refine VW.iconst (pc' := 335) d_Model_findsBlock_334 rfl (by decide) ?_
                  refine VW.iadd (pc' := 336) d_Model_findsBlock_335 rfl (by omega) ?_
                  refine VW.pI (ci := 11) (T := T11) (N := 94) (k := 84) (k' := 84) (ty := ty11) (pc' := 339) d_Model_findsBlock_336 rfl lk_Model_510 in11 tk11 nm11 rfl rfl rfl rfl rfl rfl (hM.k rfl) ?_
                  refine VW.goto (pc' := 26) d_Model_findsBlock_339 rfl ?_
                  refine VW.pick [0, 1, 2, 3] ?_
                  first | exact nx | exact nx _ (if_pos c306).symm | exact nx _ (if_neg c306).symm
                · try have e306 := bIe c306
                  have w3 := w2 c306
                  refine VW.aload_n (pc' := 310) d_Model_findsBlock_309 rfl rfl ?_
                  refine VW.gP (ci := 11) (T := T11) (N := 94) (k := 91) (k' := 91) (pc' := 313) d_Model_findsBlock_310 rfl lk_Model_225 in11 rfl rfl rfl rfl (hM.k rfl) (hM.p (r := some 291) 91 rfl rfl) ?_
                  refine VW.aload_n (pc' := 314) d_Model_findsBlock_313 rfl rfl ?_
                  refine VW.gP (ci := 11) (T := T11) (N := 94) (k := 57) (k' := 57) (pc' := 317) d_Model_findsBlock_314 rfl lk_Model_147 in11 rfl rfl rfl rfl (hM.k rfl) (hM.p (r := some 257) 57 rfl rfl) ?_
                  refine VW.iload (pc' := 319) d_Model_findsBlock_317 rfl rfl ?_
                  refine VW.ild (pc' := 320) d_Model_findsBlock_319 rfl (hM.k rfl) (by omega) (by omega) (by first | exact s1' | exact g279 | exact g256 | exact s2' | exact c1 | exact r3 | exact r4 | exact r5 | exact r6 | exact r7 | exact r8 | exact r9 | exact r10 | exact r11 | exact r12 | exact r13 | exact r14 | exact r15 | exact r16 | exact r17 | exact u1 | exact u2 | exact u3 | exact u4 | exact u5 | exact u6 | rfl) ?_
                  refine VW.ild (pc' := 321) d_Model_findsBlock_320 rfl (hM.k rfl) (by omega) (by omega) (by first | exact s1' | exact g279 | exact g256 | exact s2' | exact c1 | exact r3 | exact r4 | exact r5 | exact r6 | exact r7 | exact r8 | exact r9 | exact r10 | exact r11 | exact r12 | exact r13 | exact r14 | exact r15 | exact r16 | exact r17 | exact u1 | exact u2 | exact u3 | exact u4 | exact u5 | exact u6 | rfl) ?_
                  refine VW.i2l (pc' := 322) d_Model_findsBlock_321 rfl ?_
                  refine VW.goto (pc' := 328) d_Model_findsBlock_322 rfl ?_
                  refine VW.last (pc' := 329) d_Model_findsBlock_328 rfl (hM.k rfl) (by omega) (by omega) ?_
                  refine VW.aload_n (pc' := 330) d_Model_findsBlock_329 rfl rfl ?_
                  refine VW.dup (pc' := 331) d_Model_findsBlock_330 rfl rfl ?_
                  refine VW.gI (ci := 11) (T := T11) (N := 94) (k := 84) (k' := 84) (pc' := 334) d_Model_findsBlock_331 rfl lk_Model_510 in11 rfl rfl rfl rfl (hM.k rfl) (by first | exact s1' | exact g279 | exact g256 | exact s2' | exact c1 | exact r3 | exact r4 | exact r5 | exact r6 | exact r7 | exact r8 | exact r9 | exact r10 | exact r11 | exact r12 | exact r13 | exact r14 | exact r15 | exact r16 | exact r17 | exact u1 | exact u2 | exact u3 | exact u4 | exact u5 | exact u6 | rfl) ?_
                  refine VW.iconst (pc' := 335) d_Model_findsBlock_334 rfl (by decide) ?_
                  refine VW.iadd (pc' := 336) d_Model_findsBlock_335 rfl (by omega) ?_
                  refine VW.pI (ci := 11) (T := T11) (N := 94) (k := 84) (k' := 84) (ty := ty11) (pc' := 339) d_Model_findsBlock_336 rfl lk_Model_510 in11 tk11 nm11 rfl rfl rfl rfl rfl rfl (hM.k rfl) ?_
                  refine VW.goto (pc' := 26) d_Model_findsBlock_339 rfl ?_
                  refine VW.pick [0, 1, 2, 3] ?_
                  first | exact nx | exact nx _ (if_pos c306).symm | exact nx _ (if_neg c306).symm
              · try have e223 := bIn c223
                obtain ⟨nk1, nx⟩ := nF e57 e223
                obtain ⟨w2, -⟩ := kF e57 e223
                clear nI nF nL kI kF kL LJ mi
                have r5 : (up2 T 282 (I 279 k) o) 279 k = I 279 k := by simp [up2, g279]
                refine VW.aload_n (pc' := 227) d_Model_findsBlock_226 rfl rfl ?_
                refine VW.gP (ci := 11) (T := T11) (N := 94) (k := 82) (k' := 82) (pc' := 230) d_Model_findsBlock_227 rfl lk_Model_203 in11 rfl rfl rfl rfl (hM.k rfl) (hM.p (r := some 282) 82 rfl rfl) ?_
                refine VW.aload_n (pc' := 231) d_Model_findsBlock_230 rfl rfl ?_
                refine VW.gP (ci := 11) (T := T11) (N := 94) (k := 79) (k' := 79) (pc' := 234) d_Model_findsBlock_231 rfl lk_Model_194 in11 rfl rfl rfl rfl (hM.k rfl) (hM.p (r := some 279) 79 rfl rfl) ?_
                refine VW.iload (pc' := 236) d_Model_findsBlock_234 rfl rfl ?_
                refine VW.ild (pc' := 237) d_Model_findsBlock_236 rfl (hM.k rfl) (by omega) (by omega) (by first | exact s1' | exact g279 | exact g256 | exact s2' | exact c1 | exact r3 | exact r4 | exact r5 | exact r6 | exact r7 | exact r8 | exact r9 | exact r10 | exact r11 | exact r12 | exact r13 | exact r14 | exact r15 | exact r16 | exact r17 | exact u1 | exact u2 | exact u3 | exact u4 | exact u5 | exact u6 | rfl) ?_
                refine VW.aload_n (pc' := 238) d_Model_findsBlock_237 rfl rfl ?_
                refine VW.gP (ci := 11) (T := T11) (N := 94) (k := 82) (k' := 82) (pc' := 241) d_Model_findsBlock_238 rfl lk_Model_203 in11 rfl rfl rfl rfl (hM.k rfl) (hM.p (r := some 282) 82 rfl rfl) ?_
                refine VW.iload (pc' := 243) d_Model_findsBlock_241 rfl rfl ?_
                refine VW.ild (pc' := 244) d_Model_findsBlock_243 rfl (hM.k rfl) (by omega) (by omega) (by first | exact s1' | exact g279 | exact g256 | exact s2' | exact c1 | exact r3 | exact r4 | exact r5 | exact r6 | exact r7 | exact r8 | exact r9 | exact r10 | exact r11 | exact r12 | exact r13 | exact r14 | exact r15 | exact r16 | exact r17 | exact u1 | exact u2 | exact u3 | exact u4 | exact u5 | exact u6 | rfl) ?_
                refine VW.iast (pc' := 245) d_Model_findsBlock_244 rfl (hM.k rfl) (by omega) (by omega) ?_
                refine VW.aload_n (pc' := 246) d_Model_findsBlock_245 rfl rfl ?_
                refine VW.gP (ci := 11) (T := T11) (N := 94) (k := 83) (k' := 83) (pc' := 249) d_Model_findsBlock_246 rfl lk_Model_206 in11 rfl rfl rfl rfl (hM.k rfl) (hM.p (r := some 283) 83 rfl rfl) ?_
                refine VW.iload_n (pc' := 250) d_Model_findsBlock_249 rfl rfl ?_
                refine VW.aload_n (pc' := 251) d_Model_findsBlock_250 rfl rfl ?_
                refine VW.gP (ci := 11) (T := T11) (N := 94) (k := 79) (k' := 79) (pc' := 254) d_Model_findsBlock_251 rfl lk_Model_194 in11 rfl rfl rfl rfl (hM.k rfl) (hM.p (r := some 279) 79 rfl rfl) ?_
                refine VW.iload (pc' := 256) d_Model_findsBlock_254 rfl rfl ?_
                refine VW.ild (pc' := 257) d_Model_findsBlock_256 rfl (hM.k rfl) (by omega) (by omega) (by first | exact s1' | exact g279 | exact g256 | exact s2' | exact c1 | exact r3 | exact r4 | exact r5 | exact r6 | exact r7 | exact r8 | exact r9 | exact r10 | exact r11 | exact r12 | exact r13 | exact r14 | exact r15 | exact r16 | exact r17 | exact u1 | exact u2 | exact u3 | exact u4 | exact u5 | exact u6 | rfl) ?_
                refine VW.iast (pc' := 258) d_Model_findsBlock_257 rfl (hM.k rfl) (by omega) (by omega) ?_
                refine VW.iinc (pc' := 261) d_Model_findsBlock_258 rfl rfl rfl (by omega) ?_
                refine VW.goto (pc' := 339) d_Model_findsBlock_261 rfl ?_
                refine VW.goto (pc' := 26) d_Model_findsBlock_339 rfl ?_
                refine VW.pick [0, 1, 2, 3] ?_
                first | exact nx | exact nx _ (if_pos c306).symm | exact nx _ (if_neg c306).symm
            · try have e57 := bIn c57
              obtain ⟨⟨n12, nk1, nk2⟩, nx⟩ := nI e57
              obtain ⟨w1, w2, w3, -, -⟩ := kI e57
              have lj := LJ e57
              clear nI nF nL kI kF kL LJ mi
              have r3 : (up2 T 282 (I 279 k) o) 280 k = I 280 k := by simp [up2, g280]
              have r4 : (up2 T 282 (I 279 k) o) 282 k = o := by simp [up2, nk1.symm, s2']
              have r5 : (up2 T 282 (I 279 k) o) 279 k = I 279 k := by simp [up2, g279]
              have r6 : (up2 T 282 (I 279 k) o) 281 (I 279 k) = I 281 (I 279 k) := by simp [up2, g281]
              have r7 : (up2 (up2 T 282 (I 279 k) o) 282 (I 280 k) (o + I 281 (I 279 k))) 100 88 = dJ.length := by simp [up2, c2]
              have r8 : (up2 (up2 T 282 (I 279 k) o) 282 (I 280 k) (o + I 281 (I 279 k))) 279 k = I 279 k := by simp [up2, g279]
              have r9 : (up2 (up2 T 282 (I 279 k) o) 282 (I 280 k) (o + I 281 (I 279 k))) 282 (I 279 k) = o := by simp [up2, n12]
              have r10 : (up2 (up2 T 282 (I 279 k) o) 282 (I 280 k) (o + I 281 (I 279 k))) 258 ((12 * (q + 1)) + k) = I 258 ((12 * (q + 1)) + k) := by simp [up2, g258]
              have r11 : (up2 (up2 (up2 T 282 (I 279 k) o) 282 (I 280 k) (o + I 281 (I 279 k))) 289 dJ.length (o + I 258 ((12 * (q + 1)) + k))) 100 88 = dJ.length := by simp [up2, c2]
              have r12 : (up2 (up2 (up2 T 282 (I 279 k) o) 282 (I 280 k) (o + I 281 (I 279 k))) 289 dJ.length (o + I 258 ((12 * (q + 1)) + k))) 280 k = I 280 k := by simp [up2, g280]
              have r13 : (up2 (up2 (up2 T 282 (I 279 k) o) 282 (I 280 k) (o + I 281 (I 279 k))) 289 dJ.length (o + I 258 ((12 * (q + 1)) + k))) 282 (I 280 k) = o + I 281 (I 279 k) := by simp [up2]
              have r14 : (up2 (up2 (up2 T 282 (I 279 k) o) 282 (I 280 k) (o + I 281 (I 279 k))) 289 dJ.length (o + I 258 ((12 * (q + 1)) + k))) 259 ((12 * (q + 1)) + k) = I 259 ((12 * (q + 1)) + k) := by simp [up2, g259]
              have r15 : (up2 (up2 (up2 (up2 T 282 (I 279 k) o) 282 (I 280 k) (o + I 281 (I 279 k))) 289 dJ.length (o + I 258 ((12 * (q + 1)) + k))) 290 dJ.length (o + I 281 (I 279 k) + I 259 ((12 * (q + 1)) + k))) 100 88 = dJ.length := by simp [up2, c2]
              have r16 : (up2 (up2 (up2 (up2 (up2 T 282 (I 279 k) o) 282 (I 280 k) (o + I 281 (I 279 k))) 289 dJ.length (o + I 258 ((12 * (q + 1)) + k))) 290 dJ.length (o + I 281 (I 279 k) + I 259 ((12 * (q + 1)) + k))) 100 88 (dJ.length + 1)) 280 k = I 280 k := by simp [up2, g280]
              have r17 : (up2 (up2 (up2 (up2 (up2 (up2 T 282 (I 279 k) o) 282 (I 280 k) (o + I 281 (I 279 k))) 289 dJ.length (o + I 258 ((12 * (q + 1)) + k))) 290 dJ.length (o + I 281 (I 279 k) + I 259 ((12 * (q + 1)) + k))) 100 88 (dJ.length + 1)) 283 r.length (I 280 k)) 279 k = I 279 k := by simp [up2, g279]
              refine VW.aload_n (pc' := 61) d_Model_findsBlock_60 rfl rfl ?_
              refine VW.gP (ci := 11) (T := T11) (N := 94) (k := 82) (k' := 82) (pc' := 64) d_Model_findsBlock_61 rfl lk_Model_203 in11 rfl rfl rfl rfl (hM.k rfl) (hM.p (r := some 282) 82 rfl rfl) ?_
              refine VW.aload_n (pc' := 65) d_Model_findsBlock_64 rfl rfl ?_
              refine VW.gP (ci := 11) (T := T11) (N := 94) (k := 79) (k' := 79) (pc' := 68) d_Model_findsBlock_65 rfl lk_Model_194 in11 rfl rfl rfl rfl (hM.k rfl) (hM.p (r := some 279) 79 rfl rfl) ?_
              refine VW.iload (pc' := 70) d_Model_findsBlock_68 rfl rfl ?_
              refine VW.ild (pc' := 71) d_Model_findsBlock_70 rfl (hM.k rfl) (by omega) (by omega) (by first | exact s1' | exact g279 | exact g256 | exact s2' | exact c1 | exact r3 | exact r4 | exact r5 | exact r6 | exact r7 | exact r8 | exact r9 | exact r10 | exact r11 | exact r12 | exact r13 | exact r14 | exact r15 | exact r16 | exact r17 | exact u1 | exact u2 | exact u3 | exact u4 | exact u5 | exact u6 | rfl) ?_
              refine VW.aload_n (pc' := 72) d_Model_findsBlock_71 rfl rfl ?_
              refine VW.gP (ci := 11) (T := T11) (N := 94) (k := 82) (k' := 82) (pc' := 75) d_Model_findsBlock_72 rfl lk_Model_203 in11 rfl rfl rfl rfl (hM.k rfl) (hM.p (r := some 282) 82 rfl rfl) ?_
              refine VW.iload (pc' := 77) d_Model_findsBlock_75 rfl rfl ?_
              refine VW.ild (pc' := 78) d_Model_findsBlock_77 rfl (hM.k rfl) (by omega) (by omega) (by first | exact s1' | exact g279 | exact g256 | exact s2' | exact c1 | exact r3 | exact r4 | exact r5 | exact r6 | exact r7 | exact r8 | exact r9 | exact r10 | exact r11 | exact r12 | exact r13 | exact r14 | exact r15 | exact r16 | exact r17 | exact u1 | exact u2 | exact u3 | exact u4 | exact u5 | exact u6 | rfl) ?_
              refine VW.iast (pc' := 79) d_Model_findsBlock_78 rfl (hM.k rfl) (by omega) (by omega) ?_
              refine VW.aload_n (pc' := 80) d_Model_findsBlock_79 rfl rfl ?_
              refine VW.gP (ci := 11) (T := T11) (N := 94) (k := 82) (k' := 82) (pc' := 83) d_Model_findsBlock_80 rfl lk_Model_203 in11 rfl rfl rfl rfl (hM.k rfl) (hM.p (r := some 282) 82 rfl rfl) ?_
              refine VW.aload_n (pc' := 84) d_Model_findsBlock_83 rfl rfl ?_
              refine VW.gP (ci := 11) (T := T11) (N := 94) (k := 80) (k' := 80) (pc' := 87) d_Model_findsBlock_84 rfl lk_Model_197 in11 rfl rfl rfl rfl (hM.k rfl) (hM.p (r := some 280) 80 rfl rfl) ?_
              refine VW.iload (pc' := 89) d_Model_findsBlock_87 rfl rfl ?_
              refine VW.ild (pc' := 90) d_Model_findsBlock_89 rfl (hM.k rfl) (by omega) (by omega) (by first | exact s1' | exact g279 | exact g256 | exact s2' | exact c1 | exact r3 | exact r4 | exact r5 | exact r6 | exact r7 | exact r8 | exact r9 | exact r10 | exact r11 | exact r12 | exact r13 | exact r14 | exact r15 | exact r16 | exact r17 | exact u1 | exact u2 | exact u3 | exact u4 | exact u5 | exact u6 | rfl) ?_
              refine VW.aload_n (pc' := 91) d_Model_findsBlock_90 rfl rfl ?_
              refine VW.gP (ci := 11) (T := T11) (N := 94) (k := 82) (k' := 82) (pc' := 94) d_Model_findsBlock_91 rfl lk_Model_203 in11 rfl rfl rfl rfl (hM.k rfl) (hM.p (r := some 282) 82 rfl rfl) ?_
              refine VW.iload (pc' := 96) d_Model_findsBlock_94 rfl rfl ?_
              refine VW.ild (pc' := 97) d_Model_findsBlock_96 rfl (hM.k rfl) (by omega) (by omega) (by first | exact s1' | exact g279 | exact g256 | exact s2' | exact c1 | exact r3 | exact r4 | exact r5 | exact r6 | exact r7 | exact r8 | exact r9 | exact r10 | exact r11 | exact r12 | exact r13 | exact r14 | exact r15 | exact r16 | exact r17 | exact u1 | exact u2 | exact u3 | exact u4 | exact u5 | exact u6 | rfl) ?_
              refine VW.aload_n (pc' := 98) d_Model_findsBlock_97 rfl rfl ?_
              refine VW.gP (ci := 11) (T := T11) (N := 94) (k := 81) (k' := 81) (pc' := 101) d_Model_findsBlock_98 rfl lk_Model_200 in11 rfl rfl rfl rfl (hM.k rfl) (hM.p (r := some 281) 81 rfl rfl) ?_
              refine VW.aload_n (pc' := 102) d_Model_findsBlock_101 rfl rfl ?_
              refine VW.gP (ci := 11) (T := T11) (N := 94) (k := 79) (k' := 79) (pc' := 105) d_Model_findsBlock_102 rfl lk_Model_194 in11 rfl rfl rfl rfl (hM.k rfl) (hM.p (r := some 279) 79 rfl rfl) ?_
              refine VW.iload (pc' := 107) d_Model_findsBlock_105 rfl rfl ?_
              refine VW.ild (pc' := 108) d_Model_findsBlock_107 rfl (hM.k rfl) (by omega) (by omega) (by first | exact s1' | exact g279 | exact g256 | exact s2' | exact c1 | exact r3 | exact r4 | exact r5 | exact r6 | exact r7 | exact r8 | exact r9 | exact r10 | exact r11 | exact r12 | exact r13 | exact r14 | exact r15 | exact r16 | exact r17 | exact u1 | exact u2 | exact u3 | exact u4 | exact u5 | exact u6 | rfl) ?_
              refine VW.ild (pc' := 109) d_Model_findsBlock_108 rfl (hM.k rfl) (by omega) (by omega) (by first | exact s1' | exact g279 | exact g256 | exact s2' | exact c1 | exact r3 | exact r4 | exact r5 | exact r6 | exact r7 | exact r8 | exact r9 | exact r10 | exact r11 | exact r12 | exact r13 | exact r14 | exact r15 | exact r16 | exact r17 | exact u1 | exact u2 | exact u3 | exact u4 | exact u5 | exact u6 | rfl) ?_
              refine VW.iadd (pc' := 110) d_Model_findsBlock_109 rfl (by omega) ?_
              refine VW.iast (pc' := 111) d_Model_findsBlock_110 rfl (hM.k rfl) (by omega) (by omega) ?_
              refine VW.aload_n (pc' := 112) d_Model_findsBlock_111 rfl rfl ?_
              refine VW.gP (ci := 11) (T := T11) (N := 94) (k := 89) (k' := 89) (pc' := 115) d_Model_findsBlock_112 rfl lk_Model_219 in11 rfl rfl rfl rfl (hM.k rfl) (hM.p (r := some 289) 89 rfl rfl) ?_
              refine VW.aload_n (pc' := 116) d_Model_findsBlock_115 rfl rfl ?_
              refine VW.gI (ci := 11) (T := T11) (N := 94) (k := 88) (k' := 88) (pc' := 119) d_Model_findsBlock_116 rfl lk_Model_513 in11 rfl rfl rfl rfl (hM.k rfl) (by first | exact s1' | exact g279 | exact g256 | exact s2' | exact c1 | exact r3 | exact r4 | exact r5 | exact r6 | exact r7 | exact r8 | exact r9 | exact r10 | exact r11 | exact r12 | exact r13 | exact r14 | exact r15 | exact r16 | exact r17 | exact u1 | exact u2 | exact u3 | exact u4 | exact u5 | exact u6 | rfl) ?_
              refine VW.aload_n (pc' := 120) d_Model_findsBlock_119 rfl rfl ?_
              refine VW.gP (ci := 11) (T := T11) (N := 94) (k := 82) (k' := 82) (pc' := 123) d_Model_findsBlock_120 rfl lk_Model_203 in11 rfl rfl rfl rfl (hM.k rfl) (hM.p (r := some 282) 82 rfl rfl) ?_
              refine VW.aload_n (pc' := 124) d_Model_findsBlock_123 rfl rfl ?_
              refine VW.gP (ci := 11) (T := T11) (N := 94) (k := 79) (k' := 79) (pc' := 127) d_Model_findsBlock_124 rfl lk_Model_194 in11 rfl rfl rfl rfl (hM.k rfl) (hM.p (r := some 279) 79 rfl rfl) ?_
              refine VW.iload (pc' := 129) d_Model_findsBlock_127 rfl rfl ?_
              refine VW.ild (pc' := 130) d_Model_findsBlock_129 rfl (hM.k rfl) (by omega) (by omega) (by first | exact s1' | exact g279 | exact g256 | exact s2' | exact c1 | exact r3 | exact r4 | exact r5 | exact r6 | exact r7 | exact r8 | exact r9 | exact r10 | exact r11 | exact r12 | exact r13 | exact r14 | exact r15 | exact r16 | exact r17 | exact u1 | exact u2 | exact u3 | exact u4 | exact u5 | exact u6 | rfl) ?_
              refine VW.ild (pc' := 131) d_Model_findsBlock_130 rfl (hM.k rfl) (by omega) (by omega) (by first | exact s1' | exact g279 | exact g256 | exact s2' | exact c1 | exact r3 | exact r4 | exact r5 | exact r6 | exact r7 | exact r8 | exact r9 | exact r10 | exact r11 | exact r12 | exact r13 | exact r14 | exact r15 | exact r16 | exact r17 | exact u1 | exact u2 | exact u3 | exact u4 | exact u5 | exact u6 | rfl) ?_
              refine VW.aload_n (pc' := 132) d_Model_findsBlock_131 rfl rfl ?_
              refine VW.gP (ci := 11) (T := T11) (N := 94) (k := 58) (k' := 58) (pc' := 135) d_Model_findsBlock_132 rfl lk_Model_150 in11 rfl rfl rfl rfl (hM.k rfl) (hM.p (r := some 258) 58 rfl rfl) ?_
              refine VW.iload (pc' := 137) d_Model_findsBlock_135 rfl rfl ?_
              refine VW.ild (pc' := 138) d_Model_findsBlock_137 rfl (hM.k rfl) (by omega) (by omega) (by first | exact s1' | exact g279 | exact g256 | exact s2' | exact c1 | exact r3 | exact r4 | exact r5 | exact r6 | exact r7 | exact r8 | exact r9 | exact r10 | exact r11 | exact r12 | exact r13 | exact r14 | exact r15 | exact r16 | exact r17 | exact u1 | exact u2 | exact u3 | exact u4 | exact u5 | exact u6 | rfl) ?_
              refine VW.iadd (pc' := 139) d_Model_findsBlock_138 rfl (by omega) ?_
              refine VW.iast (pc' := 140) d_Model_findsBlock_139 rfl (hM.k rfl) (by omega) (by omega) ?_
              refine VW.aload_n (pc' := 141) d_Model_findsBlock_140 rfl rfl ?_
              refine VW.gP (ci := 11) (T := T11) (N := 94) (k := 90) (k' := 90) (pc' := 144) d_Model_findsBlock_141 rfl lk_Model_222 in11 rfl rfl rfl rfl (hM.k rfl) (hM.p (r := some 290) 90 rfl rfl) ?_
              refine VW.aload_n (pc' := 145) d_Model_findsBlock_144 rfl rfl ?_
              refine VW.gI (ci := 11) (T := T11) (N := 94) (k := 88) (k' := 88) (pc' := 148) d_Model_findsBlock_145 rfl lk_Model_513 in11 rfl rfl rfl rfl (hM.k rfl) (by first | exact s1' | exact g279 | exact g256 | exact s2' | exact c1 | exact r3 | exact r4 | exact r5 | exact r6 | exact r7 | exact r8 | exact r9 | exact r10 | exact r11 | exact r12 | exact r13 | exact r14 | exact r15 | exact r16 | exact r17 | exact u1 | exact u2 | exact u3 | exact u4 | exact u5 | exact u6 | rfl) ?_
              refine VW.aload_n (pc' := 149) d_Model_findsBlock_148 rfl rfl ?_
              refine VW.gP (ci := 11) (T := T11) (N := 94) (k := 82) (k' := 82) (pc' := 152) d_Model_findsBlock_149 rfl lk_Model_203 in11 rfl rfl rfl rfl (hM.k rfl) (hM.p (r := some 282) 82 rfl rfl) ?_
              refine VW.aload_n (pc' := 153) d_Model_findsBlock_152 rfl rfl ?_
              refine VW.gP (ci := 11) (T := T11) (N := 94) (k := 80) (k' := 80) (pc' := 156) d_Model_findsBlock_153 rfl lk_Model_197 in11 rfl rfl rfl rfl (hM.k rfl) (hM.p (r := some 280) 80 rfl rfl) ?_
              refine VW.iload (pc' := 158) d_Model_findsBlock_156 rfl rfl ?_
              refine VW.ild (pc' := 159) d_Model_findsBlock_158 rfl (hM.k rfl) (by omega) (by omega) (by first | exact s1' | exact g279 | exact g256 | exact s2' | exact c1 | exact r3 | exact r4 | exact r5 | exact r6 | exact r7 | exact r8 | exact r9 | exact r10 | exact r11 | exact r12 | exact r13 | exact r14 | exact r15 | exact r16 | exact r17 | exact u1 | exact u2 | exact u3 | exact u4 | exact u5 | exact u6 | rfl) ?_
              refine VW.ild (pc' := 160) d_Model_findsBlock_159 rfl (hM.k rfl) (by omega) (by omega) (by first | exact s1' | exact g279 | exact g256 | exact s2' | exact c1 | exact r3 | exact r4 | exact r5 | exact r6 | exact r7 | exact r8 | exact r9 | exact r10 | exact r11 | exact r12 | exact r13 | exact r14 | exact r15 | exact r16 | exact r17 | exact u1 | exact u2 | exact u3 | exact u4 | exact u5 | exact u6 | rfl) ?_
              refine VW.aload_n (pc' := 161) d_Model_findsBlock_160 rfl rfl ?_
              refine VW.gP (ci := 11) (T := T11) (N := 94) (k := 59) (k' := 59) (pc' := 164) d_Model_findsBlock_161 rfl lk_Model_153 in11 rfl rfl rfl rfl (hM.k rfl) (hM.p (r := some 259) 59 rfl rfl) ?_
              refine VW.iload (pc' := 166) d_Model_findsBlock_164 rfl rfl ?_
              refine VW.ild (pc' := 167) d_Model_findsBlock_166 rfl (hM.k rfl) (by omega) (by omega) (by first | exact s1' | exact g279 | exact g256 | exact s2' | exact c1 | exact r3 | exact r4 | exact r5 | exact r6 | exact r7 | exact r8 | exact r9 | exact r10 | exact r11 | exact r12 | exact r13 | exact r14 | exact r15 | exact r16 | exact r17 | exact u1 | exact u2 | exact u3 | exact u4 | exact u5 | exact u6 | rfl) ?_
              refine VW.iadd (pc' := 168) d_Model_findsBlock_167 rfl (by omega) ?_
              refine VW.iast (pc' := 169) d_Model_findsBlock_168 rfl (hM.k rfl) (by omega) (by omega) ?_
              refine VW.aload_n (pc' := 170) d_Model_findsBlock_169 rfl rfl ?_
              refine VW.dup (pc' := 171) d_Model_findsBlock_170 rfl rfl ?_
              refine VW.gI (ci := 11) (T := T11) (N := 94) (k := 88) (k' := 88) (pc' := 174) d_Model_findsBlock_171 rfl lk_Model_513 in11 rfl rfl rfl rfl (hM.k rfl) (by first | exact s1' | exact g279 | exact g256 | exact s2' | exact c1 | exact r3 | exact r4 | exact r5 | exact r6 | exact r7 | exact r8 | exact r9 | exact r10 | exact r11 | exact r12 | exact r13 | exact r14 | exact r15 | exact r16 | exact r17 | exact u1 | exact u2 | exact u3 | exact u4 | exact u5 | exact u6 | rfl) ?_
              refine VW.iconst (pc' := 175) d_Model_findsBlock_174 rfl (by decide) ?_
              refine VW.iadd (pc' := 176) d_Model_findsBlock_175 rfl (by omega) ?_
              refine VW.pI (ci := 11) (T := T11) (N := 94) (k := 88) (k' := 88) (ty := ty11) (pc' := 179) d_Model_findsBlock_176 rfl lk_Model_513 in11 tk11 nm11 rfl rfl rfl rfl rfl rfl (hM.k rfl) ?_
              refine VW.aload_n (pc' := 180) d_Model_findsBlock_179 rfl rfl ?_
              refine VW.gP (ci := 11) (T := T11) (N := 94) (k := 83) (k' := 83) (pc' := 183) d_Model_findsBlock_180 rfl lk_Model_206 in11 rfl rfl rfl rfl (hM.k rfl) (hM.p (r := some 283) 83 rfl rfl) ?_
              refine VW.iload_n (pc' := 184) d_Model_findsBlock_183 rfl rfl ?_
              refine VW.aload_n (pc' := 185) d_Model_findsBlock_184 rfl rfl ?_
              refine VW.gP (ci := 11) (T := T11) (N := 94) (k := 80) (k' := 80) (pc' := 188) d_Model_findsBlock_185 rfl lk_Model_197 in11 rfl rfl rfl rfl (hM.k rfl) (hM.p (r := some 280) 80 rfl rfl) ?_
              refine VW.iload (pc' := 190) d_Model_findsBlock_188 rfl rfl ?_
              refine VW.ild (pc' := 191) d_Model_findsBlock_190 rfl (hM.k rfl) (by omega) (by omega) (by first | exact s1' | exact g279 | exact g256 | exact s2' | exact c1 | exact r3 | exact r4 | exact r5 | exact r6 | exact r7 | exact r8 | exact r9 | exact r10 | exact r11 | exact r12 | exact r13 | exact r14 | exact r15 | exact r16 | exact r17 | exact u1 | exact u2 | exact u3 | exact u4 | exact u5 | exact u6 | rfl) ?_
              refine VW.iast (pc' := 192) d_Model_findsBlock_191 rfl (hM.k rfl) (by omega) (by omega) ?_
              refine VW.aload_n (pc' := 193) d_Model_findsBlock_192 rfl rfl ?_
              refine VW.gP (ci := 11) (T := T11) (N := 94) (k := 83) (k' := 83) (pc' := 196) d_Model_findsBlock_193 rfl lk_Model_206 in11 rfl rfl rfl rfl (hM.k rfl) (hM.p (r := some 283) 83 rfl rfl) ?_
              refine VW.iload_n (pc' := 197) d_Model_findsBlock_196 rfl rfl ?_
              refine VW.iconst (pc' := 198) d_Model_findsBlock_197 rfl (by decide) ?_
              refine VW.iadd (pc' := 199) d_Model_findsBlock_198 rfl (by omega) ?_
              refine VW.aload_n (pc' := 200) d_Model_findsBlock_199 rfl rfl ?_
              refine VW.gP (ci := 11) (T := T11) (N := 94) (k := 79) (k' := 79) (pc' := 203) d_Model_findsBlock_200 rfl lk_Model_194 in11 rfl rfl rfl rfl (hM.k rfl) (hM.p (r := some 279) 79 rfl rfl) ?_
              refine VW.iload (pc' := 205) d_Model_findsBlock_203 rfl rfl ?_
              refine VW.ild (pc' := 206) d_Model_findsBlock_205 rfl (hM.k rfl) (by omega) (by omega) (by first | exact s1' | exact g279 | exact g256 | exact s2' | exact c1 | exact r3 | exact r4 | exact r5 | exact r6 | exact r7 | exact r8 | exact r9 | exact r10 | exact r11 | exact r12 | exact r13 | exact r14 | exact r15 | exact r16 | exact r17 | exact u1 | exact u2 | exact u3 | exact u4 | exact u5 | exact u6 | rfl) ?_
              refine VW.iast (pc' := 207) d_Model_findsBlock_206 rfl (hM.k rfl) (by omega) (by omega) ?_
              refine VW.iinc (pc' := 210) d_Model_findsBlock_207 rfl rfl rfl (by omega) ?_
              refine VW.goto (pc' := 339) d_Model_findsBlock_210 rfl ?_
              refine VW.goto (pc' := 26) d_Model_findsBlock_339 rfl ?_
              refine VW.pick [0, 1, 2, 3] ?_
              first | exact nx | exact nx _ (if_pos c306).symm | exact nx _ (if_neg c306).symm
  have bi : BJ J I J (up2 (up2 (up2 (up2 I 100 84 0) 100 88 0) 283 0 first) 282 first 0) (12 * (q + 1)) (blkL I (12 * (q + 1)) n first 0) (blkJ I (12 * (q + 1)) n first 0) (blkV I (12 * (q + 1)) n first 0) [] [] [] [(n, first, 0)] := by
    refine ⟨⟨fun o' q' h1 h2 => ?_, fun o' q' _ => rfl⟩, ⟨?_, ?_⟩, ⟨fun i e he => ?_, fun i e he => ?_, fun i e he => ?_⟩, fun e he => ?_, ⟨⟨⟨?_, ?_⟩, trivial⟩, fun e he => ?_⟩, ?_, ?_, ?_⟩
    · rw [show ∀ (X : IT) a b, up2 X 282 a b o' q' = X o' q' from fun X a b => if_neg (by omega), show ∀ (X : IT) a b, up2 X 283 a b o' q' = X o' q' from fun X a b => if_neg (by omega), show ∀ (X : IT) b, up2 X 100 88 b o' q' = X o' q' from fun X b => if_neg (by omega), show ∀ (X : IT) b, up2 X 100 84 b o' q' = X o' q' from fun X b => if_neg (by omega)]
    · simp [up2]
    · simp [up2]
    · cases he
    · cases he
    · cases he
    · cases he
    · show up2 _ 282 first 0 283 ((0 : Nat) : Int) = first
      simp [up2]
    · exact up2_eq _ _ _ _
    · rw [List.mem_singleton.1 he]; exact hOK
    · show [] ++ (_ ++ []) = _
      rw [List.append_nil]; rfl
    · show [] ++ (_ ++ []) = _
      rw [List.append_nil]; rfl
    · show [] ++ (_ ++ []) = _
      rw [List.append_nil]; rfl
  have l := loop (pV I (12 * (q + 1)) [(n, first, 0)]).length [(n, first, 0)] [] [] [] J _ (Nat.le_refl _) bi
  have f0 : 0 ≤ first ∧ first < 12 := by
    cases n with
    | zero => exact hOK.elim
    | succ n => exact hOK.1.1
  have l1 : VW m_Model_findsBlock false (rmv 2 42) (exW K P (.inl none) (fun J' U => BJ J I J' U (12 * (q + 1)) (blkL I (12 * (q + 1)) n first 0) (blkJ I (12 * (q + 1)) n first 0) (blkV I (12 * (q + 1)) n first 0) (blkL I (12 * (q + 1)) n first 0) (blkJ I (12 * (q + 1)) n first 0) (blkV I (12 * (q + 1)) n first 0) [])) K P J (up2 (up2 (up2 (up2 I 100 84 0) 100 88 0) 283 0 first) 282 first 0) 0 0 26 [(0, vR (some 100)), (1, vI q), (2, vI first), (3, vI 1)] [] := l
  clear l loop hOK hnd hl hj bi
  refine VW.aload_n (pc' := 1) d_Model_findsBlock_0 rfl rfl ?_
  refine VW.iconst (pc' := 2) d_Model_findsBlock_1 rfl (by decide) ?_
  refine VW.pI (ci := 11) (T := T11) (N := 94) (k := 84) (k' := 84) (ty := ty11) (pc' := 5) d_Model_findsBlock_2 rfl lk_Model_510 in11 tk11 nm11 rfl rfl rfl rfl rfl rfl (hM.k rfl) ?_
  refine VW.aload_n (pc' := 6) d_Model_findsBlock_5 rfl rfl ?_
  refine VW.iconst (pc' := 7) d_Model_findsBlock_6 rfl (by decide) ?_
  refine VW.pI (ci := 11) (T := T11) (N := 94) (k := 88) (k' := 88) (ty := ty11) (pc' := 10) d_Model_findsBlock_7 rfl lk_Model_513 in11 tk11 nm11 rfl rfl rfl rfl rfl rfl (hM.k rfl) ?_
  refine VW.aload_n (pc' := 11) d_Model_findsBlock_10 rfl rfl ?_
  refine VW.gP (ci := 11) (T := T11) (N := 94) (k := 83) (k' := 83) (pc' := 14) d_Model_findsBlock_11 rfl lk_Model_206 in11 rfl rfl rfl rfl (hM.k rfl) (hM.p (r := some 283) 83 rfl rfl) ?_
  refine VW.iconst (pc' := 15) d_Model_findsBlock_14 rfl (by decide) ?_
  refine VW.iload_n (pc' := 16) d_Model_findsBlock_15 rfl rfl ?_
  refine VW.iast (pc' := 17) d_Model_findsBlock_16 rfl (hM.k rfl) (by omega) (by omega) ?_
  refine VW.aload_n (pc' := 18) d_Model_findsBlock_17 rfl rfl ?_
  refine VW.gP (ci := 11) (T := T11) (N := 94) (k := 82) (k' := 82) (pc' := 21) d_Model_findsBlock_18 rfl lk_Model_203 in11 rfl rfl rfl rfl (hM.k rfl) (hM.p (r := some 282) 82 rfl rfl) ?_
  refine VW.iload_n (pc' := 22) d_Model_findsBlock_21 rfl rfl ?_
  refine VW.iconst (pc' := 23) d_Model_findsBlock_22 rfl (by decide) ?_
  refine VW.iast (pc' := 24) d_Model_findsBlock_23 rfl (hM.k rfl) (by omega) (by omega) ?_
  refine VW.iconst (pc' := 25) d_Model_findsBlock_24 rfl (by decide) ?_
  refine VW.istore_n (pc' := 26) d_Model_findsBlock_25 rfl rfl ?_
  refine VW.nrm ?_
  exact l1
def PreB2 (J S : IT) (q : Int) (n : Nat) (U1 : IT) : Prop := (blkOK U1 (12 * (q + 1)) n (mFirstJ U1 q n) 0 ∧ ((blkV U1 (12 * (q + 1)) n (mFirstJ U1 q n) 0).map Prod.fst).Nodup ∧ (blkL U1 (12 * (q + 1)) n (mFirstJ U1 q n) 0).length ≤ 3 ∧ (blkJ U1 (12 * (q + 1)) n (mFirstJ U1 q n) 0).length ≤ 11) ∧
  ∀ J2 U2 : IT, BJ J U1 J2 U2 (12 * (q + 1)) (blkL U1 (12 * (q + 1)) n (mFirstJ U1 q n) 0) (blkJ U1 (12 * (q + 1)) n (mFirstJ U1 q n) 0) (blkV U1 (12 * (q + 1)) n (mFirstJ U1 q n) 0) (blkL U1 (12 * (q + 1)) n (mFirstJ U1 q n) 0) (blkJ U1 (12 * (q + 1)) n (mFirstJ U1 q n) 0) (blkV U1 (12 * (q + 1)) n (mFirstJ U1 q n) 0) [] → ((U2 100 84 = ((blkL U1 (12 * (q + 1)) n (mFirstJ U1 q n) 0).length : Nat) ∧ ((blkL U1 (12 * (q + 1)) n (mFirstJ U1 q n) 0).length = 2 ∨ (blkL U1 (12 * (q + 1)) n (mFirstJ U1 q n) 0).length = 3)) ∧ blkOK U2 (12 * (q + 1)) n (mFirstJ U1 q n) 0 ∧ (∀ e ∈ (blkV U2 (12 * (q + 1)) n (mFirstJ U1 q n) 0), U2 282 e.1 = e.2) ∧ (blkL U2 (12 * (q + 1)) n (mFirstJ U1 q n) 0).length ≤ 4 ∧ (∀ e ∈ (blkF U2 (12 * (q + 1)) n (mFirstJ U1 q n) 0), (0 ≤ U2 257 ((12 * (q + 1)) + e.1) ∧ U2 257 ((12 * (q + 1)) + e.1) ≤ 20) ∧ (U2 256 ((12 * (q + 1)) + e.1) = 1 → mVlOK U2 q (e.2 + U2 257 ((12 * (q + 1)) + e.1)))) ∧ (∀ k, 0 ≤ J2 287 k ∧ J2 287 k ≤ 10) ∧ (∀ k, 0 ≤ U2 292 k ∧ U2 292 k ≤ 8)) ∧
    ∀ U3 : IT, (∀ (o : Nat) (z : Int), o ≠ 283 → U3 o z = U2 o z) → CoOK ((blkF U2 (12 * (q + 1)) n (mFirstJ U1 q n) 0).foldl (psF U2 q) J2) U3 q (blkL U1 (12 * (q + 1)) n (mFirstJ U1 q n) 0).length (blkJ U1 (12 * (q + 1)) n (mFirstJ U1 q n) 0).length
/-- what prepare needs of a query that has no plan yet -/
def PreOK2 (J I : IT) (q : Int) (n : Nat) : Prop := (MB (up2 I 100 93 0) ∧ NOK (up2 I 100 93 0) q n ∧ 1 ≤ n) ∧ ∀ U1 : IT, NI (up2 I 100 93 0) U1 (12 * (q + 1)) n → (∀ j : Int, 0 ≤ j → j < n → mPass (U1 256 ((12 * (q + 1)) + j)) → 0 ≤ U1 279 j ∧ U1 279 j < j) ∧ (mFirstJ U1 q n ≠ -1 → PreB2 J (up2 I 100 93 0) q n U1)
/-- what prepare answers and leaves -/
def PrP2 (J I : IT) (q : Int) (n : Nat) (v : Int) (J' U : IT) : Prop :=
  (¬ (0 ≤ q ∧ q < I 100 61) ∧ v = 0 ∧ J' = J ∧ U = up2 I 100 93 1) ∨
  ((0 ≤ q ∧ q < I 100 61) ∧ I 263 q ≠ 0 ∧ v = I 264 q ∧ J' = J ∧ U = up2 I 100 93 0) ∨
  ((0 ≤ q ∧ q < I 100 61) ∧ I 263 q = 0 ∧ ∃ U1 : IT, NI (up2 I 100 93 0) U1 (12 * (q + 1)) n ∧
    ((mFirstJ U1 q n = -1 ∧ v = -1 ∧ J' = J ∧ U = U1) ∨
     (mFirstJ U1 q n ≠ -1 ∧ ∃ J2 U2 U3 : IT, BJ J U1 J2 U2 (12 * (q + 1)) (blkL U1 (12 * (q + 1)) n (mFirstJ U1 q n) 0) (blkJ U1 (12 * (q + 1)) n (mFirstJ U1 q n) 0) (blkV U1 (12 * (q + 1)) n (mFirstJ U1 q n) 0) (blkL U1 (12 * (q + 1)) n (mFirstJ U1 q n) 0) (blkJ U1 (12 * (q + 1)) n (mFirstJ U1 q n) 0) (blkV U1 (12 * (q + 1)) n (mFirstJ U1 q n) 0) [] ∧ (∀ (o : Nat) (z : Int), o ≠ 283 → U3 o z = U2 o z) ∧ v = (bsE ((blkF U2 (12 * (q + 1)) n (mFirstJ U1 q n) 0).foldl (psF U2 q) J2) U3 q (blkL U1 (12 * (q + 1)) n (mFirstJ U1 q n) 0).length (blkJ U1 (12 * (q + 1)) n (mFirstJ U1 q n) 0).length).1 ∧ J' = ((blkF U2 (12 * (q + 1)) n (mFirstJ U1 q n) 0).foldl (psF U2 q) J2) ∧ U = prE ((blkF U2 (12 * (q + 1)) n (mFirstJ U1 q n) 0).foldl (psF U2 q) J2) U3 q (blkL U1 (12 * (q + 1)) n (mFirstJ U1 q n) 0).length (blkJ U1 (12 * (q + 1)) n (mFirstJ U1 q n) 0).length)))
theorem sp_Model_prepare2 {q : Int} {n : Nat} (hM : MW K P) (h61 : 0 ≤ I 100 61 ∧ I 100 61 ≤ 20) (h67 : 0 ≤ I 100 67 ∧ I 100 67 < 100000) (hk : (0 ≤ q ∧ q < I 100 61) → I 263 q = 0 → PreOK2 J I q n) : Sp m_Model_prepare false (rmv 3 82) (exY K P (PrP2 J I q n)) K P J I [vR (some 100), vI q] := by
  refine Sp.ofV (by decide) (Or.inr rfl) rfl ?_
  have r1 : ¬ (0 ≤ q ∧ q < I 100 61) → PrP2 J I q n 0 J (up2 I 100 93 1) := fun z => Or.inl ⟨z, rfl, rfl, rfl⟩
  have r2 : (0 ≤ q ∧ q < I 100 61) → I 263 q ≠ 0 → PrP2 J I q n (I 264 q) J (up2 I 100 93 0) := fun z y => Or.inr (Or.inl ⟨z, y, rfl, rfl, rfl⟩)
  have r3 : ∀ U1 : IT, (0 ≤ q ∧ q < I 100 61) → I 263 q = 0 → NI (up2 I 100 93 0) U1 (12 * (q + 1)) n → mFirstJ U1 q n = -1 → PrP2 J I q n (-1) J U1 := fun U1 z y w u => Or.inr (Or.inr ⟨z, y, U1, w, Or.inl ⟨u, rfl, rfl, rfl⟩⟩)
  have block : ∀ U1 : IT, (0 ≤ q ∧ q < I 100 61) → I 263 q = 0 → NI (up2 I 100 93 0) U1 (12 * (q + 1)) n → mFirstJ U1 q n ≠ -1 → PreB2 J (up2 I 100 93 0) q n U1 → VW m_Model_prepare false (rmv 3 82) (exY K P (PrP2 J I q n)) K P J U1 0 0 56 [(0, vR (some 100)), (1, vI q), (2, vI (mFirstJ U1 q n))] [] := by
    intro U1 hv h263 hN hf hp
    have q0 : 0 ≤ q ∧ q < 20 := by omega
    have n67 := hN.1 100 67 (by decide) (by decide) (by decide) (by decide)
    have n67 : U1 100 67 = I 100 67 := n67.trans (if_neg (by omega))
    obtain ⟨⟨o1, o2, o3, o4⟩, rest⟩ := hp
    have fb := sp_Model_findsBlock2 (K := K) (P := P) (J := J) (I := U1) (q := q) (first := mFirstJ U1 q n) (n := n) hM q0 o1 o2 o3 o4
    have seek : ∀ J2 U2 U3 : IT, BJ J U1 J2 U2 (12 * (q + 1)) (blkL U1 (12 * (q + 1)) n (mFirstJ U1 q n) 0) (blkJ U1 (12 * (q + 1)) n (mFirstJ U1 q n) 0) (blkV U1 (12 * (q + 1)) n (mFirstJ U1 q n) 0) (blkL U1 (12 * (q + 1)) n (mFirstJ U1 q n) 0) (blkJ U1 (12 * (q + 1)) n (mFirstJ U1 q n) 0) (blkV U1 (12 * (q + 1)) n (mFirstJ U1 q n) 0) [] → (∀ (o : Nat) (z : Int), o ≠ 283 → U3 o z = U2 o z) → VW m_Model_prepare false (rmv 3 82) (exY K P (PrP2 J I q n)) K P ((blkF U2 (12 * (q + 1)) n (mFirstJ U1 q n) 0).foldl (psF U2 q) J2) U3 0 0 68 [(0, vR (some 100)), (1, vI q), (2, vI (mFirstJ U1 q n))] [] := by
      intro J2 U2 U3 hB h3
      obtain ⟨⟨⟨-, c2⟩, -⟩, c⟩ := rest J2 U2 hB
      have e67 : U3 100 67 = I 100 67 := (h3 100 67 (by decide)).trans ((hB.1.1 100 67 (by omega) (by omega)).trans n67)
      exact pr_search hM q0 c2 (c U3 h3) (by omega) (Or.inr (Or.inr ⟨hv, h263, U1, hN, Or.inr ⟨hf, J2, U2, U3, hB, h3, rfl, rfl, rfl⟩⟩))
    have pa : ∀ J2 U2 : IT, BJ J U1 J2 U2 (12 * (q + 1)) (blkL U1 (12 * (q + 1)) n (mFirstJ U1 q n) 0) (blkJ U1 (12 * (q + 1)) n (mFirstJ U1 q n) 0) (blkV U1 (12 * (q + 1)) n (mFirstJ U1 q n) 0) (blkL U1 (12 * (q + 1)) n (mFirstJ U1 q n) 0) (blkJ U1 (12 * (q + 1)) n (mFirstJ U1 q n) 0) (blkV U1 (12 * (q + 1)) n (mFirstJ U1 q n) 0) [] → Sp m_Model_passes false (rmv 2 47) (exW K P (.inl none) (fun J' U => J' = ((blkF U2 (12 * (q + 1)) n (mFirstJ U1 q n) 0).foldl (psF U2 q) J2) ∧ ∀ (o : Nat) (z : Int), o ≠ 283 → U o z = U2 o z)) K P J2 U2 [vR (some 100), vI q, vI (mFirstJ U1 q n)] := by
      intro J2 U2 hB
      obtain ⟨⟨⟨c1, c2⟩, c3, c4, c5, c6, c7, c8⟩, -⟩ := rest J2 U2 hB
      exact sp_Model_passes hM q0 c1 (by omega) c3 c4 c5 c6 c7 c8
    clear rest o1 o2 o3 o4 hN h67 n67 r1 r2 r3 hk h61
    refine VW.aload_n (pc' := 57) d_Model_prepare_56 rfl rfl ?_
    refine VW.iload_n (pc' := 58) d_Model_prepare_57 rfl rfl ?_
    refine VW.iload_n (pc' := 59) d_Model_prepare_58 rfl rfl ?_
    refine VW.cVw (ci := 11) (T := T11) (N := 94) (pc' := 62) d_Model_prepare_59 rfl mv_Model_findsBlock lk_Model_533 rfl (hM.k rfl) rfl rfl rfl (Nat.le_refl _) (Nat.le_refl _) (fb) rfl rfl (fun J2 U2 hB => ?_)
    refine VW.aload_n (pc' := 63) d_Model_prepare_62 rfl rfl ?_
    refine VW.iload_n (pc' := 64) d_Model_prepare_63 rfl rfl ?_
    refine VW.iload_n (pc' := 65) d_Model_prepare_64 rfl rfl ?_
    
    refine VW.cVw (ci := 11) (T := T11) (N := 94) (pc' := 68) d_Model_prepare_65 rfl mv_Model_passes lk_Model_536 rfl (hM.k rfl) rfl rfl rfl (Nat.le_refl _) (Nat.le_refl _) ((pa J2 U2 hB)) rfl rfl (fun J3 U3 hP => ?_)
    refine VW.pick [0, 1, 2] ?_
    (obtain ⟨eJ, h3⟩ := hP; rw [eJ]; exact seek J2 U2 U3 hB h3)
  have fn : (0 ≤ q ∧ q < I 100 61) → I 263 q = 0 → Sp m_Model_findsNodes false (rmv 1 22) (exU K P J (.inl none) (fun U => NI (up2 I 100 93 0) U (12 * (q + 1)) n)) K P J (up2 I 100 93 0) [vR (some 100), vI q] := fun z y => sp_Model_findsNodes hM (hk z y).1.1 (by omega) (hk z y).1.2.1
  have fj : ∀ U1 : IT, (0 ≤ q ∧ q < I 100 61) → I 263 q = 0 → NI (up2 I 100 93 0) U1 (12 * (q + 1)) n → Sp m_Model_firstJoin false (rmv 2 42) (ex K P J U1 (.inl (some (vI (mFirstJ U1 q n))))) K P J U1 [vR (some 100), vI q] := by
    intro U1 z y w
    have a := hk z y
    have e262 := w.1 262 q (by decide) (by decide) (by decide) (by decide)
    rw [a.1.2.1.1.1] at e262
    exact sp_Model_firstJoin hM (by omega) e262 ⟨a.1.2.2, a.1.2.1.1.2⟩ (a.2 U1 w).1
  have bl : ∀ U1 : IT, (0 ≤ q ∧ q < I 100 61) → I 263 q = 0 → NI (up2 I 100 93 0) U1 (12 * (q + 1)) n → mFirstJ U1 q n ≠ -1 → VW m_Model_prepare false (rmv 3 82) (exY K P (PrP2 J I q n)) K P J U1 0 0 56 [(0, vR (some 100)), (1, vI q), (2, vI (mFirstJ U1 q n))] [] := fun U1 z y w u => block U1 z y w u (((hk z y).2 U1 w).2 u)
  clear block hk
  have t22 : (0 ≤ q ∧ q < I 100 61) → VW m_Model_prepare false (rmv 3 82) (exY K P (PrP2 J I q n)) K P J (up2 I 100 93 0) 0 0 22 [(0, vR (some 100)), (1, vI q)] [] := by
    intro z
    have q0 : 0 ≤ q ∧ q < 20 := by omega
    have fn := fn z
    have fj := fun U1 => fj U1 z
    have bl := fun U1 => bl U1 z
    have r2 := r2 z
    have r3 := fun U1 => r3 U1 z
    clear r1 h67
    refine VW.aload_n (pc' := 23) d_Model_prepare_22 rfl rfl ?_
    refine VW.gP (ci := 11) (T := T11) (N := 94) (k := 63) (k' := 63) (pc' := 26) d_Model_prepare_23 rfl lk_Model_162 in11 rfl rfl rfl rfl (hM.k rfl) (hM.p (r := some 263) 63 rfl rfl) ?_
    refine VW.iload_n (pc' := 27) d_Model_prepare_26 rfl rfl ?_
    refine VW.zld (pc' := 28) d_Model_prepare_27 rfl (hM.k rfl) (by omega) (by omega) (by first | exact up2_o _ _ _ _ (by decide) | rfl) ?_
    refine VW.if_eq (tgt := 38) (pc' := 31) d_Model_prepare_28 rfl rfl (fun c28 => ?_) (fun c28 => ?_)
    · try have e28 := bIe c28
      refine VW.aload_n (pc' := 39) d_Model_prepare_38 rfl rfl ?_
      refine VW.iload_n (pc' := 40) d_Model_prepare_39 rfl rfl ?_
      refine VW.cVu (ci := 11) (T := T11) (N := 94) (pc' := 43) d_Model_prepare_40 rfl mv_Model_findsNodes lk_Model_527 rfl (hM.k rfl) rfl rfl rfl (Nat.le_refl _) (Nat.le_refl _) ((fn c28)) rfl rfl (fun U1 hU => ?_)
      refine VW.aload_n (pc' := 44) d_Model_prepare_43 rfl rfl ?_
      refine VW.iload_n (pc' := 45) d_Model_prepare_44 rfl rfl ?_
      refine VW.cV (ci := 11) (T := T11) (N := 94) (pc' := 48) d_Model_prepare_45 rfl mv_Model_firstJoin lk_Model_530 rfl (hM.k rfl) rfl rfl rfl (Nat.le_refl _) (Nat.le_refl _) ((fj U1 c28 hU)) rfl rfl ?_
      refine VW.istore_n (pc' := 49) d_Model_prepare_48 rfl rfl ?_
      refine VW.iload_n (pc' := 50) d_Model_prepare_49 rfl rfl ?_
      refine VW.iconst (pc' := 51) d_Model_prepare_50 rfl (by decide) ?_
      refine VW.icmp_ne (tgt := 56) (pc' := 54) d_Model_prepare_51 rfl rfl (fun c51 => ?_) (fun c51 => ?_)
      · refine VW.pick [0, 1, 2] ?_
        exact bl U1 c28 hU c51
      · refine VW.iconst (pc' := 55) d_Model_prepare_54 rfl (by decide) ?_
        exact VW.iret d_Model_prepare_55 rfl rfl (Nat.zero_le _) (Nat.zero_le _) (exY_mk (r3 U1 c28 hU c51))
    · try have e28 := bIn c28
      refine VW.aload_n (pc' := 32) d_Model_prepare_31 rfl rfl ?_
      refine VW.gP (ci := 11) (T := T11) (N := 94) (k := 64) (k' := 64) (pc' := 35) d_Model_prepare_32 rfl lk_Model_165 in11 rfl rfl rfl rfl (hM.k rfl) (hM.p (r := some 264) 64 rfl rfl) ?_
      refine VW.iload_n (pc' := 36) d_Model_prepare_35 rfl rfl ?_
      refine VW.ild (pc' := 37) d_Model_prepare_36 rfl (hM.k rfl) (by omega) (by omega) (by first | exact up2_o _ _ _ _ (by decide) | rfl) ?_
      exact VW.iret d_Model_prepare_37 rfl rfl (Nat.zero_le _) (Nat.zero_le _) (exY_mk (r2 c28))
  clear fn fj bl r2 r3
  refine VW.aload_n (pc' := 1) d_Model_prepare_0 rfl rfl ?_
  refine VW.aload_n (pc' := 2) d_Model_prepare_1 rfl rfl ?_
  refine VW.iload_n (pc' := 3) d_Model_prepare_2 rfl rfl ?_
  refine VW.cV (ci := 11) (T := T11) (N := 94) (pc' := 6) d_Model_prepare_3 rfl mv_Model_isQuery lk_Model_486 rfl (hM.k rfl) rfl rfl rfl (Nat.le_refl _) (Nat.le_refl _) (sp_Model_isQuery hM h61.1) rfl rfl ?_
  refine VW.if_eq (tgt := 13) (pc' := 9) d_Model_prepare_6 rfl rfl (fun c6 => ?_) (fun c6 => ?_)
  · try have e6 := bIe c6
    refine VW.iconst (pc' := 14) d_Model_prepare_13 rfl (by decide) ?_
    refine VW.cV (ci := 11) (T := T11) (N := 94) (pc' := 17) d_Model_prepare_14 rfl mv_Model_fails lk_Model_254 rfl (hM.k rfl) rfl rfl rfl (Nat.le_refl _) (Nat.le_refl _) (sp_Model_fails hM) rfl rfl ?_
    refine VW.if_eq (tgt := 22) (pc' := 20) d_Model_prepare_17 rfl rfl (fun c17 => ?_) (fun c17 => ?_)
    · try have e17 := bIe c17
      refine VW.pick [0, 1] ?_
      first | (exfalso; omega) | exact t22 e6
    · try have e17 := bIn c17
      refine VW.iconst (pc' := 21) d_Model_prepare_20 rfl (by decide) ?_
      exact VW.iret d_Model_prepare_21 rfl rfl (Nat.zero_le _) (Nat.zero_le _) (by first | (exfalso; omega) | exact exY_mk (r1 e6))
  · try have e6 := bIn c6
    refine VW.iconst (pc' := 10) d_Model_prepare_9 rfl (by decide) ?_
    refine VW.goto (pc' := 14) d_Model_prepare_10 rfl ?_
    refine VW.cV (ci := 11) (T := T11) (N := 94) (pc' := 17) d_Model_prepare_14 rfl mv_Model_fails lk_Model_254 rfl (hM.k rfl) rfl rfl rfl (Nat.le_refl _) (Nat.le_refl _) (sp_Model_fails hM) rfl rfl ?_
    refine VW.if_eq (tgt := 22) (pc' := 20) d_Model_prepare_17 rfl rfl (fun c17 => ?_) (fun c17 => ?_)
    · try have e17 := bIe c17
      refine VW.pick [0, 1] ?_
      first | (exfalso; omega) | exact t22 e6
    · try have e17 := bIn c17
      refine VW.iconst (pc' := 21) d_Model_prepare_20 rfl (by decide) ?_
      exact VW.iret d_Model_prepare_21 rfl rfl (Nat.zero_le _) (Nat.zero_le _) (by first | (exfalso; omega) | exact exY_mk (r1 e6))
end
