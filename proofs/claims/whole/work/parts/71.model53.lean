section
variable {K : KT} {P : PT} {J I : IT} {Q : PQ}
theorem BI.filter {JT T : IT} {x k o : Int} {aL aJ aV dL dJ dV : List (Int × Int)} {f : Nat} {r : PND} (h : BI J I JT T x aL aJ aV dL dJ dV ((f + 1, k, o) :: r)) (hnd : (aV.map Prod.fst).Nodup) (hi : ¬ mInner I (x + k)) (hf : isFlt (I 256 (x + k))) :
    I 279 k ≠ k ∧ BI J I JT (up2 (up2 T 282 (I 279 k) o) 283 r.length (I 279 k)) x aL aJ aV dL dJ (dV ++ [(k, o)]) ((f, I 279 k, o) :: r) := by
  obtain ⟨⟨f1, f2⟩, ⟨c1, c2⟩, ⟨hL, hJ, hR⟩, hV, ⟨hs, hp⟩, ⟨a1, a2, a3⟩⟩ := h
  have hk := hp (f + 1, k, o) List.mem_cons_self
  have hr : pOK I x r := fun e he => hp e (List.mem_cons_of_mem _ he)
  obtain ⟨q1, o1⟩ := hk.2.2.1 hi hf
  obtain ⟨t1, ht1⟩ := blkV_hd o1
  have eL : pL I x ((f + 1, k, o) :: r) = pL I x ((f, I 279 k, o) :: r) := by
    show blkL I x (f + 1) k o ++ pL I x r = blkL I x f (I 279 k) o ++ pL I x r
    rw [(blk_f hi hf).1]
  have eJ : pJ I x ((f + 1, k, o) :: r) = pJ I x ((f, I 279 k, o) :: r) := by
    show blkJ I x (f + 1) k o ++ pJ I x r = blkJ I x f (I 279 k) o ++ pJ I x r
    rw [(blk_f hi hf).2.1]
  have eV : pV I x ((f + 1, k, o) :: r) = (k, o) :: (blkV I x f (I 279 k) o ++ pV I x r) := by
    show blkV I x (f + 1) k o ++ pV I x r = _
    rw [(blk_f hi hf).2.2, List.cons_append]
  have nd := hnd
  rw [← a3] at nd
  have nd2 := nd_r nd
  rw [eV, ht1] at nd2
  have m1 : (I 279 k, o) ∈ pV I x ((f + 1, k, o) :: r) := by rw [eV, ht1]; simp
  have nk1 : I 279 k ≠ k := fun e => by simp [e] at nd2
  have nr : ∀ e ∈ r, e.2.1 ≠ I 279 k := fun e he => by
    have m := pV_mem hr he
    have w := nd_r nd
    rw [eV] at w
    have w2 := nd_r (A := [(k, o)]) w
    exact (nd_ne w2 (by rw [ht1]; exact List.mem_cons_self) m).symm
  have nv : ∀ e ∈ dV, e.1 ≠ I 279 k := fun e he => nd_ne nd he m1
  generalize I 279 k = lf at *
  refine ⟨nk1, ⟨fun o' q h1 h2 => ?_, f2⟩, ⟨?_, ?_⟩, ⟨?_, ?_, hR⟩, fun e he => ?_, ⟨⟨⟨?_, ?_⟩, ?_⟩, fun e he => ?_⟩, ⟨by rw [← eL]; exact a1, by rw [← eJ]; exact a2, by rw [← a3, eV, List.append_assoc]; rfl⟩⟩
  · rw [show ∀ (X : IT) a b, up2 X 283 a b o' q = X o' q from fun X a b => if_neg (by omega), show ∀ (X : IT) a b, up2 X 282 a b o' q = X o' q from fun X a b => if_neg (by omega)]
    exact f1 o' q h1 h2
  · simp [up2]; exact c1
  · simp [up2]; exact c2
  · exact hL.of (fun i _ => by simp [up2]) (fun i _ => by simp [up2])
  · exact hJ.of (fun i _ => by simp [up2]) (fun i _ => by simp [up2])
  · rcases List.mem_append.1 he with z | z
    · have := nv e z
      simp [up2, this]
      exact hV e z
    · rw [List.mem_singleton.1 z]
      simp [up2, nk1.symm]
      exact hs.1.2
  · exact up2_eq _ _ _ _
  · simp [up2]
  · refine hs.2.of _ (fun q q0 q1 => ?_) (fun e he => ?_)
    · rw [up2_k _ _ _ _ (by omega)]
      simp [up2]
    · have := nr e he
      simp [up2, this]
  · rcases List.mem_cons.1 he with z | z
    · rw [z]; exact o1
    · exact hr e z
theorem BI.leaf {JT T : IT} {x k o : Int} {aL aJ aV dL dJ dV : List (Int × Int)} {f : Nat} {r : PND} (h : BI J I JT T x aL aJ aV dL dJ dV ((f + 1, k, o) :: r)) (hi : ¬ mInner I (x + k)) (hf : ¬ isFlt (I 256 (x + k))) :
    BI J I (up2 JT 287 dL.length (lrOf I x k)) (up2 (up2 (up2 T 285 dL.length k) 286 dL.length o) 100 84 (dL.length + 1)) x aL aJ aV (dL ++ [(k, o)]) dJ (dV ++ [(k, o)]) r := by
  obtain ⟨⟨f1, f2⟩, ⟨c1, c2⟩, ⟨hL, hJ, hR⟩, hV, ⟨hs, hp⟩, ⟨a1, a2, a3⟩⟩ := h
  have hr : pOK I x r := fun e he => hp e (List.mem_cons_of_mem _ he)
  have eL : pL I x ((f + 1, k, o) :: r) = (k, o) :: pL I x r := by
    show blkL I x (f + 1) k o ++ pL I x r = _
    rw [(blk_l hi hf).1]; rfl
  have eJ : pJ I x ((f + 1, k, o) :: r) = pJ I x r := by
    show blkJ I x (f + 1) k o ++ pJ I x r = _
    rw [(blk_l hi hf).2.1]; rfl
  have eV : pV I x ((f + 1, k, o) :: r) = (k, o) :: pV I x r := by
    show blkV I x (f + 1) k o ++ pV I x r = _
    rw [(blk_l hi hf).2.2]; rfl
  refine ⟨⟨fun o' q h1 h2 => ?_, fun o' q h1 => (up2_o _ _ _ _ h1).trans (f2 o' q h1)⟩, ⟨?_, ?_⟩, ⟨?_, ?_, fun i e he => ?_⟩, fun e he => ?_, ⟨hs.2.of _ (fun q q0 q1 => by simp [up2]) (fun e he => by simp [up2]), hr⟩, ⟨by rw [← a1, eL, List.append_assoc]; rfl, by rw [← eJ]; exact a2, by rw [← a3, eV, List.append_assoc]; rfl⟩⟩
  · rw [show ∀ (X : IT) b, up2 X 100 84 b o' q = X o' q from fun X b => if_neg (by omega), show ∀ (X : IT) a b, up2 X 286 a b o' q = X o' q from fun X a b => if_neg (by omega), show ∀ (X : IT) a b, up2 X 285 a b o' q = X o' q from fun X a b => if_neg (by omega)]
    exact f1 o' q h1 h2
  · simp [up2]
  · simp [up2]; exact c2
  · have s := holds.snoc (T := T) (a := 285) (b := 286) (L := dL) (u := k) (v := o) (by decide) hL
    exact s.of (fun i _ => by simp [up2]) (fun i _ => by simp [up2])
  · exact hJ.of (fun i _ => by simp [up2]) (fun i _ => by simp [up2])
  · by_cases z : i < dL.length
    · rw [List.getElem?_append_left z] at he
      rw [up2_k _ _ _ _ (by omega)]
      exact hR i e he
    · rw [List.getElem?_append_right (by omega)] at he
      by_cases h0 : i - dL.length = 0
      · rw [h0] at he
        have e1 : (k, o) = e := Option.some.inj he
        have ei : i = dL.length := by omega
        subst ei e1
        exact up2_eq _ _ _ _
      · rw [List.getElem?_eq_none (by simp; omega)] at he
        cases he
  · rcases List.mem_append.1 he with z | z
    · simp [up2]; exact hV e z
    · rw [List.mem_singleton.1 z]
      simp [up2]; exact hs.1.2
end
