section
variable {K : KT} {P : PT} {J I : IT} {Q : PQ}
/-- the rows of a leaf -/
def lrOf (I : IT) (x k : Int) : Int := if I 256 (x + k) = 0 then I 291 (I 257 (x + k)) else 10
def BI (J I JT T : IT) (x : Int) (aL aJ aV dL dJ dV : List (Int × Int)) (p : PND) : Prop :=
  ((∀ (o : Nat) (q : Int), (o < 282 ∨ o = 284 ∨ o = 287 ∨ o = 288 ∨ 290 < o) → ¬ (o = 100 ∧ (q = 84 ∨ q = 88)) → T o q = I o q) ∧ (∀ (o : Nat) (q : Int), o ≠ 287 → JT o q = J o q)) ∧
  (T 100 84 = dL.length ∧ T 100 88 = dJ.length) ∧ (holds T 285 286 dL ∧ holds T 289 290 dJ ∧ ∀ (i : Nat) (e : Int × Int), dL[i]? = some e → JT 287 i = lrOf I x e.1) ∧
  (∀ e ∈ dV, T 282 e.1 = e.2) ∧ (StP T p ∧ pOK I x p) ∧ (dL ++ pL I x p = aL ∧ dJ ++ pJ I x p = aJ ∧ dV ++ pV I x p = aV)
theorem nd_ne {A B : List (Int × Int)} (h : ((A ++ B).map Prod.fst).Nodup) {a b : Int × Int} (ha : a ∈ A) (hb : b ∈ B) : a.1 ≠ b.1 := by
  rw [List.map_append, List.nodup_append] at h
  exact h.2.2 _ (List.mem_map.2 ⟨a, ha, rfl⟩) _ (List.mem_map.2 ⟨b, hb, rfl⟩)
theorem nd_l {A B : List (Int × Int)} (h : ((A ++ B).map Prod.fst).Nodup) : (A.map Prod.fst).Nodup := by
  rw [List.map_append, List.nodup_append] at h
  exact h.1
theorem nd_r {A B : List (Int × Int)} (h : ((A ++ B).map Prod.fst).Nodup) : (B.map Prod.fst).Nodup := by
  rw [List.map_append, List.nodup_append] at h
  exact h.2.1
theorem pV_mem {x : Int} {p : PND} (h : pOK I x p) {e : Nat × Int × Int} (he : e ∈ p) : (e.2.1, e.2.2) ∈ pV I x p := by
  obtain ⟨t, ht⟩ := blkV_hd (h e he)
  exact List.mem_flatMap.2 ⟨e, he, by rw [ht]; exact List.mem_cons_self⟩
theorem BI.inner {JT T : IT} {x k o : Int} {aL aJ aV dL dJ dV : List (Int × Int)} {f : Nat} {r : PND} (h : BI J I JT T x aL aJ aV dL dJ dV ((f + 1, k, o) :: r)) (hnd : (aV.map Prod.fst).Nodup) (hi : mInner I (x + k)) :
    (I 279 k ≠ I 280 k ∧ I 279 k ≠ k ∧ I 280 k ≠ k) ∧ BI J I JT (up2 (up2 (up2 (up2 (up2 (up2 (up2 T 282 (I 279 k) o) 282 (I 280 k) (o + I 281 (I 279 k))) 289 dJ.length (o + I 258 (x + k))) 290 dJ.length (o + I 281 (I 279 k) + I 259 (x + k))) 100 88 (dJ.length + 1)) 283 r.length (I 280 k)) 283 ((r.length : Int) + 1) (I 279 k)) x aL aJ aV dL (dJ ++ [(o + I 258 (x + k), o + I 281 (I 279 k) + I 259 (x + k))]) (dV ++ [(k, o)]) ((f, I 279 k, o) :: (f, I 280 k, o + I 281 (I 279 k)) :: r) := by
  obtain ⟨⟨f1, f2⟩, ⟨c1, c2⟩, ⟨hL, hJ, hR⟩, hV, ⟨hs, hp⟩, ⟨a1, a2, a3⟩⟩ := h
  have hk := hp (f + 1, k, o) List.mem_cons_self
  have hr : pOK I x r := fun e he => hp e (List.mem_cons_of_mem _ he)
  obtain ⟨-, q1, q2, o1, o2⟩ := hk.2.1 hi
  obtain ⟨t1, ht1⟩ := blkV_hd o1
  obtain ⟨t2, ht2⟩ := blkV_hd o2
  have eL : pL I x ((f + 1, k, o) :: r) = pL I x ((f, I 279 k, o) :: (f, I 280 k, o + I 281 (I 279 k)) :: r) := by
    show blkL I x (f + 1) k o ++ pL I x r = blkL I x f (I 279 k) o ++ (blkL I x f (I 280 k) (o + I 281 (I 279 k)) ++ pL I x r)
    rw [(blk_i hi).1, List.append_assoc]
  have eJ : pJ I x ((f + 1, k, o) :: r) = (o + I 258 (x + k), o + I 281 (I 279 k) + I 259 (x + k)) :: pJ I x ((f, I 279 k, o) :: (f, I 280 k, o + I 281 (I 279 k)) :: r) := by
    show blkJ I x (f + 1) k o ++ pJ I x r = _ :: (blkJ I x f (I 279 k) o ++ (blkJ I x f (I 280 k) (o + I 281 (I 279 k)) ++ pJ I x r))
    rw [(blk_i hi).2.1, List.cons_append, List.append_assoc]
  have eV : pV I x ((f + 1, k, o) :: r) = (k, o) :: (blkV I x f (I 279 k) o ++ (blkV I x f (I 280 k) (o + I 281 (I 279 k)) ++ pV I x r)) := by
    show blkV I x (f + 1) k o ++ pV I x r = _
    rw [(blk_i hi).2.2, List.cons_append, List.append_assoc]
  have nd := hnd
  rw [← a3] at nd
  have nd2 := nd_r nd
  rw [eV, ht1, ht2] at nd2
  have m1 : (I 279 k, o) ∈ pV I x ((f + 1, k, o) :: r) := by rw [eV, ht1]; simp
  have m2 : (I 280 k, o + I 281 (I 279 k)) ∈ pV I x ((f + 1, k, o) :: r) := by rw [eV, ht2]; simp
  have n12 : I 279 k ≠ I 280 k := fun e => by simp [e] at nd2
  have nk1 : I 279 k ≠ k := fun e => by simp [e] at nd2
  have nk2 : I 280 k ≠ k := fun e => by simp [e] at nd2
  have nr : ∀ e ∈ r, e.2.1 ≠ I 279 k ∧ e.2.1 ≠ I 280 k := fun e he => by
    have m := pV_mem hr he
    have w := nd_r nd
    rw [eV] at w
    have w2 := nd_r (A := [(k, o)]) w
    refine ⟨(nd_ne w2 (by rw [ht1]; exact List.mem_cons_self) (List.mem_append_right _ m)).symm, (nd_ne (nd_r w2) (by rw [ht2]; exact List.mem_cons_self) m).symm⟩
  have nv : ∀ e ∈ dV, e.1 ≠ I 279 k ∧ e.1 ≠ I 280 k := fun e he => ⟨nd_ne nd he m1, nd_ne nd he m2⟩
  generalize hone : o + I 258 (x + k) = one at *
  generalize htwo : o + I 281 (I 279 k) + I 259 (x + k) = two at *
  generalize hor : o + I 281 (I 279 k) = orr at *
  generalize I 279 k = lf at *
  generalize I 280 k = rt at *
  have lr : ((r.length : Nat) : Int) = (r.length : Int) := rfl
  refine ⟨⟨n12, nk1, nk2⟩, ⟨fun o' q h1 h2 => ?_, f2⟩, ⟨?_, ?_⟩, ⟨?_, ?_, hR⟩, fun e he => ?_, ⟨⟨⟨?_, ?_⟩, ⟨?_, ?_⟩, ?_⟩, fun e he => ?_⟩, ⟨by rw [← eL]; exact a1, by rw [← a2, eJ, List.append_assoc]; rfl, by rw [← a3, eV, List.append_assoc]; rfl⟩⟩
  · rw [show ∀ (X : IT) a b, up2 X 283 a b o' q = X o' q from fun X a b => if_neg (by omega), show ∀ (X : IT) a b, up2 X 283 a b o' q = X o' q from fun X a b => if_neg (by omega), show ∀ (X : IT) b, up2 X 100 88 b o' q = X o' q from fun X b => if_neg (by omega), show ∀ (X : IT) a b, up2 X 290 a b o' q = X o' q from fun X a b => if_neg (by omega), show ∀ (X : IT) a b, up2 X 289 a b o' q = X o' q from fun X a b => if_neg (by omega), show ∀ (X : IT) a b, up2 X 282 a b o' q = X o' q from fun X a b => if_neg (by omega), show ∀ (X : IT) a b, up2 X 282 a b o' q = X o' q from fun X a b => if_neg (by omega)]
    exact f1 o' q h1 h2
  · simp [up2]; exact c1
  · simp [up2]
  · exact hL.of (fun i _ => by simp [up2]) (fun i _ => by simp [up2])
  · have s := holds.snoc (T := up2 (up2 T 282 lf o) 282 rt orr) (a := 289) (b := 290) (L := dJ) (u := one) (v := two) (by decide) (hJ.of (fun i _ => by simp [up2]) (fun i _ => by simp [up2]))
    exact s.of (fun i _ => by simp [up2]) (fun i _ => by simp [up2])
  · rcases List.mem_append.1 he with z | z
    · have := nv e z
      simp [up2, this.1, this.2]
      exact hV e z
    · rw [List.mem_singleton.1 z]
      simp [up2, nk1.symm, nk2.symm]
      exact hs.1.2
  · show up2 _ 283 ((r.length : Int) + 1) lf 283 (((r.length + 1 : Nat) : Int)) = lf
    rw [show ((r.length + 1 : Nat) : Int) = (r.length : Int) + 1 by omega, up2_eq]
  · simp [up2, n12]
  · show up2 _ 283 ((r.length : Int) + 1) lf 283 ((r.length : Nat) : Int) = rt
    rw [up2_k _ _ _ _ (by omega), up2_eq]
  · simp [up2]
  · refine hs.2.of _ (fun q q0 q1 => ?_) (fun e he => ?_)
    · rw [up2_k _ _ _ _ (by omega), up2_k _ _ _ _ (by omega)]
      simp [up2]
    · have := nr e he
      simp [up2, this.1, this.2]
  · rcases List.mem_cons.1 he with z | z
    · rw [z]; exact o1
    · rcases List.mem_cons.1 z with z | z
      · rw [z]; exact o2
      · exact hr e z
end
