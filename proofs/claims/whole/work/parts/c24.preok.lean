/-! the reference's prepare may be asked for each query -/
section
variable {I S S0 T U J : IT} {Q : Int} {n q top : Nat}
theorem ps_fold_rg (h292 : ∀ k, 0 ≤ U 292 k ∧ U 292 k ≤ 8) : ∀ (l : List (Int × Int)) (J : IT), (∀ k, 0 ≤ J 287 k ∧ J 287 k ≤ 10) → ∀ k, 0 ≤ (l.foldl (psF U Q) J) 287 k ∧ (l.foldl (psF U Q) J) 287 k ≤ 10 := by
  intro l
  induction l with
  | nil => exact fun _ h => h
  | cons e l ihq => exact fun J h => ihq _ (psF_rg h292 h e)
theorem ps_fold_o : ∀ (l : List (Int × Int)) (J : IT) (o : Nat) (k : Int), o ≠ 287 → (l.foldl (psF U Q) J) o k = J o k := by
  intro l
  induction l with
  | nil => exact fun _ _ _ _ => rfl
  | cons e l ihq => exact fun J o k h => (ihq _ o k h).trans (psF_o e o k h)
theorem nok_ok (hs : SSch S) (hqv : QV S (12 * (Q + 1)) n) (h262 : S 262 Q = n) : NOK S Q n := by
  refine ⟨⟨h262, hqv.1⟩, fun k hk => ?_⟩
  obtain ⟨lenq, atq⟩ := nsW_eq hs hqv k (by omega)
  have dl := rtT_dOp hqv hk
  obtain ⟨wo, w3⟩ := wsT_ok hs hqv k (by omega)
  have l2 := rtT_len hqv k (by omega)
  have l3 := wo.len
  have ov := hqv.2 k hk
  have s6 := hs.1.2
  refine ⟨fun z => ?_, fun z => ?_, by omega, fun e he => ?_, fun z => ?_, fun z => ?_⟩
  · have d : dOp (S 256 (12 * (Q + 1) + k)) = 2 := by
      unfold isTwo at z
      unfold dOp
      rw [if_neg (by omega), if_pos z]
    omega
  · have : dOp (S 256 (12 * (Q + 1) + k)) ≠ 0 := fun w => z (dOp_0 w)
    omega
  · obtain ⟨i, hi⟩ := List.getElem?_of_mem he
    have il : i < (rtT S (12 * (Q + 1)) k).length := by
      rw [← lenq]; exact (List.getElem?_eq_some_iff.mp hi).1
    have g0 := List.getElem?_eq_getElem il
    have g1 := atq i _ g0
    rw [hi] at g1
    have rg := (rtT_tail k i _ g0).1
    rw [Option.some.inj g1]
    have := wd_rg hs hqv (k := ((rtT S (12 * (Q + 1)) k)[i]).toNat) (by omega)
    exact ⟨by show (0 : Int) ≤ (wdN S (12 * (Q + 1)) ((rtT S (12 * (Q + 1)) k)[i]).toNat : Int); omega, by show (wdN S (12 * (Q + 1)) ((rtT S (12 * (Q + 1)) k)[i]).toNat : Int) ≤ 10; omega⟩
  · have := (ov.2.1 z).1
    omega
  · obtain ⟨eh, rs, est, a0, a1⟩ := ov.2.2.2.2.1 z
    rw [est] at wo
    have w10 := wo.1.1.2
    have pw : ∀ w : Fin 11, (2 : Int) ^ w.val ≤ 1024 := by decide
    have := pw ⟨eh.1, by omega⟩
    have : (2 : Int) ^ eh.1 ≤ 1024 := this
    omega
/-- the numbers of a block, once the reference has found it -/
theorem block_ok (h : Qk I S T q (12 * (Q + 1)) n) (hq0 : 10000 ≤ q) (ht : top < n) (hi : mInner T (12 * (Q + 1) + (top : Int))) (hpl : PlR I S) (h292 : ∀ k, 0 ≤ S 292 k ∧ S 292 k ≤ 8) (hJ : ∀ k, 0 ≤ J 287 k ∧ J 287 k ≤ 10) {J2 U2 : IT}
    (hB : BJ J T J2 U2 (12 * (Q + 1)) (blkL T (12 * (Q + 1)) n top 0) (blkJ T (12 * (Q + 1)) n top 0) (blkV T (12 * (Q + 1)) n top 0) (blkL T (12 * (Q + 1)) n top 0) (blkJ T (12 * (Q + 1)) n top 0) (blkV T (12 * (Q + 1)) n top 0) []) :
    UB S U2 (blkL T (12 * (Q + 1)) n top 0) ∧ holds U2 289 290 (blkJ T (12 * (Q + 1)) n top 0) ∧ U2 100 88 = (blkJ T (12 * (Q + 1)) n top 0).length ∧ (∀ k, 0 ≤ U2 292 k ∧ U2 292 k ≤ 8) ∧ (∀ k, 0 ≤ J2 287 k ∧ J2 287 k ≤ 10) ∧ (∀ f, blkL U2 (12 * (Q + 1)) f = blkL T (12 * (Q + 1)) f ∧ blkV U2 (12 * (Q + 1)) f = blkV T (12 * (Q + 1)) f ∧ blkF U2 (12 * (Q + 1)) f = blkF T (12 * (Q + 1)) f ∧ blkOK U2 (12 * (Q + 1)) f = blkOK T (12 * (Q + 1)) f) ∧ (∀ (i : Nat) e, (blkL T (12 * (Q + 1)) n top 0)[i]? = some e → J2 287 i = if S 256 (12 * (Q + 1) + e.1) = 0 then S 291 (S 257 (12 * (Q + 1) + e.1)) else 10) ∧ (∀ o, o ≠ 287 → J2 o = J o) ∧ (∀ e ∈ blkV T (12 * (Q + 1)) n top 0, U2 282 e.1 = e.2) := by
  obtain ⟨⟨b1, b2⟩, ⟨b3, b4⟩, ⟨b5, b6, b7⟩, b8, -⟩ := hB
  have ni := h.2.2.2.1
  have u : ∀ o z, (256 ≤ o ∧ o ≤ 260) ∨ o = 291 ∨ o = 292 → U2 o z = S o z := fun o z ho => (b1 o z (by omega) (by omega)).trans (ni o z (by omega) (by omega) (by omega) (by omega))
  have bo := blk_of (T := T) (T' := U2) (x := 12 * (Q + 1)) (fun o ho => funext (fun z => b1 o z (by omega) (by omega)))
  have rows : ∀ (i : Nat) e, (blkL T (12 * (Q + 1)) n top 0)[i]? = some e → J2 287 i = if S 256 (12 * (Q + 1) + e.1) = 0 then S 291 (S 257 (12 * (Q + 1) + e.1)) else 10 := fun i e he => by
    rw [b7 i e he]
    unfold lrOf
    rw [ni 256 _ (by decide) (by decide) (by decide) (by decide), ni 257 _ (by decide) (by decide) (by decide) (by decide), ni 291 _ (by decide) (by decide) (by decide) (by decide)]
  refine ⟨⟨u, b5, b3⟩, b6, b4, fun k => by rw [u 292 k (by omega)]; exact h292 k, fun k => ?_, fun f => ⟨(bo f).1, (bo f).2.2.1, (bo f).2.2.2.1, (bo f).2.2.2.2⟩, rows, fun o ho => funext (fun z => b2 o z (Or.inl ho)), b8⟩
  by_cases y : 0 ≤ k ∧ k < (blkL T (12 * (Q + 1)) n top 0).length
  · have gi := List.getElem?_eq_getElem (show k.toNat < (blkL T (12 * (Q + 1)) n top 0).length by omega)
    have r := rows k.toNat _ gi
    rw [show ((k.toNat : Nat) : Int) = k by omega] at r
    have nd := (blkL_sub n top 0 _ (List.mem_of_getElem? gi)).1
    have rg := blkV_rg h n top 0 ht ht _ nd
    have ar := sA_rg (S := S) (x := 12 * (Q + 1)) (k := top)
    rw [r]
    generalize (blkL T (12 * (Q + 1)) n top 0)[k.toNat] = e at *
    by_cases z : S 256 (12 * (Q + 1) + e.1) = 0
    · rw [if_pos z]
      have ws := wd_scan h.1.1 h.1.2 (k := e.1.toNat) (by omega) (by rw [show ((e.1.toNat : Nat) : Int) = e.1 by omega]; exact z)
      rw [show ((e.1.toNat : Nat) : Int) = e.1 by omega] at ws
      have := hpl.1 _ ws.1.1 ws.1.2
      omega
    · rw [if_neg z]; exact ⟨by decide, by decide⟩
  · rw [b2 287 k (by omega)]; exact hJ k
theorem pre_ok (hS : up2 S0 100 93 0 = S) (hmb : MB S) (hs : SSch S) (hqv : QV S (12 * (Q + 1)) n) (hR : QRe I S q (12 * (Q + 1)) n) (hN : QRn I S q (12 * (Q + 1)) n) (h262 : S 262 Q = n) (hn1 : 1 ≤ n) (hq0 : 10000 ≤ q) (hpl : PlR I S) (h292 : ∀ k, 0 ≤ S 292 k ∧ S 292 k ≤ 8) (hJ : ∀ k, 0 ≤ J 287 k ∧ J 287 k ≤ 10) : PreOK2 J S0 Q n := by
  unfold PreOK2
  rw [hS]
  refine ⟨⟨hmb, nok_ok hs hqv h262, hn1⟩, fun U1 hU => ?_⟩
  have h : Qk I S U1 q (12 * (Q + 1)) n := ⟨⟨hs, hqv⟩, hR, hN, hU⟩
  have n12 := hqv.1
  refine ⟨fun j j0 j1 hp => ?_, fun hne => ?_⟩
  · obtain ⟨k, ek⟩ : ∃ k : Nat, j = k := ⟨j.toNat, by omega⟩
    subst ek
    have o1 := (h.op (k : Int)).1
    have d1 : dOp (S 256 (12 * (Q + 1) + (k : Int))) = 1 := by
      rw [o1] at hp
      unfold mPass at hp
      unfold dOp
      rw [if_neg (by omega), if_neg (by omega)]
    obtain ⟨j', ej, -, -, t7, -⟩ := h.one (by omega) d1
    rw [t7]; omega
  · obtain ⟨te, tx⟩ := top_eq h hn1
    rw [te] at hne
    obtain ⟨top, etop, ht, hi⟩ := tx hne
    have em : mFirstJ U1 Q n = (top : Int) := te.trans etop
    have wt := wd_rg hs hqv ht
    obtain ⟨⟨l1, l2⟩, lj, l22⟩ := blk_len h n top 0 ht ht
    have w3 := (wt_rg hs hqv ht).2
    have l2' := l22 hi
    have lL : (blkL U1 (12 * (Q + 1)) n top 0).length ≤ 3 := by omega
    unfold PreB2
    rw [em]
    refine ⟨⟨blk_ok h n12 n top 0 ht ht (Int.le_refl _) (by omega), blk_nodup h n top 0 ht ht, lL, by omega⟩, fun J2 U2 hB => ?_⟩
    obtain ⟨ub, hJJ, n88, u92, j2, bo, rows, jo, b8⟩ := block_ok h hq0 ht hi hpl h292 hJ hB
    obtain ⟨-, -, cols⟩ := blk_cols h rfl hq0 ht n12 hpl lL ub
    refine ⟨⟨⟨ub.2.2, by omega⟩, ?_, ?_, ?_, ?_, j2, u92⟩, fun U3 h3 => ?_⟩
    · rw [(bo n).2.2.2]; exact blk_ok h n12 n top 0 ht ht (Int.le_refl _) (by omega)
    · rw [(bo n).2.1]; exact b8
    · rw [(bo n).1]; omega
    · rw [(bo n).2.2.1]
      intro e he
      obtain ⟨a1, a2, a3⟩ := (blkF_mem n top 0 e).mp he
      have rg := blkV_rg h n top 0 ht ht e a1
      have ar := sA_rg (S := S) (x := 12 * (Q + 1)) (k := top)
      obtain ⟨k, ek⟩ : ∃ k : Nat, e.1 = k := ⟨e.1.toNat, by omega⟩
      have o1 := (h.op e.1).1
      rw [o1, ek] at a3
      have fc := flt_col h ht (j := k) (v := e.2) (by omega) (by rw [← ek]; exact a1) a3
      rw [ub.1 257 _ (by omega), ek]
      obtain ⟨i, kk, -, -, -, vo⟩ := cols (e.2 + S 257 (12 * (Q + 1) + k)) (by omega) fc.2.2
      exact ⟨⟨fc.2.1, by omega⟩, fun _ => vo⟩
    · have ub3 : UB S U3 (blkL U1 (12 * (Q + 1)) n top 0) := ⟨fun o z ho => (h3 o z (by omega)).trans (ub.1 o z ho), fun i e he => ⟨(h3 285 _ (by decide)).trans (ub.2.1 i e he).1, (h3 286 _ (by decide)).trans (ub.2.1 i e he).2⟩, (h3 100 84 (by decide)).trans ub.2.2⟩
      obtain ⟨-, -, cols3⟩ := blk_cols h rfl hq0 ht n12 hpl lL ub3
      refine ⟨⟨ub3.2.2, by omega, lL⟩, ⟨(h3 100 88 (by decide)).trans n88, by omega⟩, ps_fold_rg u92 _ _ j2, fun k => by rw [h3 292 k (by decide)]; exact u92 k, fun j j0 j1 => ?_⟩
      have gj := List.getElem?_eq_getElem (show j.toNat < (blkJ U1 (12 * (Q + 1)) n top 0).length by omega)
      obtain ⟨c1, c2⟩ := hJJ j.toNat _ gj
      rw [show ((j.toNat : Nat) : Int) = j by omega] at c1 c2
      rw [h3 289 j (by decide), h3 290 j (by decide), c1, c2]
      have mem := List.mem_of_getElem? gj
      generalize (blkJ U1 (12 * (Q + 1)) n top 0)[j.toNat] = e at *
      rw [blkI_J] at mem
      obtain ⟨d, hd, ed⟩ := List.mem_map.mp mem
      have cl := jn_col h ht d hd
      rw [ed] at cl
      obtain ⟨i, kk, -, -, -, vo⟩ := cols3 e.1 cl.1.1 cl.1.2
      obtain ⟨i', kk', -, -, -, vo'⟩ := cols3 e.2 cl.2.1 cl.2.2
      exact ⟨vo, vo'⟩
end
