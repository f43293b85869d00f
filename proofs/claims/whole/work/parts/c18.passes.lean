/-! the rows of a block's leaves behind its filters: class and reference -/
section
variable {I S T U J : IT} {x Q : Int} {n q top : Nat}
def cdF (S U : IT) (x : Int) (e : Int × Int) : Prop := S 256 (x + e.1) = 1 ∧ S 256 (x + U 285 (mLeaf U (e.2 + S 257 (x + e.1)) (U 100 84).toNat)) = 0
def leF (S U : IT) (x : Int) (e : Int × Int) : Int := mLeaf U (e.2 + S 257 (x + e.1)) (U 100 84).toNat
def dvF (S U : IT) (x Q : Int) (e : Int × Int) : Int := if S 258 (x + e.1) = 1 ∧ S 260 (x + e.1) = 0 then mVals U Q (e.2 + S 257 (x + e.1)) else 3
theorem psF_fold (hx : x = 12 * (Q + 1)) (hU : ∀ o z, 256 ≤ o → o ≤ 260 → U o z = S o z) : ∀ (l : List (Int × Int)) (J : IT), (l.foldl (psF U Q) J) 287 = l.foldl (fG (cdF S U x) (leF S U x) (dvF S U x Q)) (J 287) := by
  intro l
  induction l with
  | nil => exact fun _ => rfl
  | cons e l ihq =>
    intro J
    have st : psF U Q J e 287 = fG (cdF S U x) (leF S U x) (dvF S U x Q) (J 287) e := by
      funext z
      unfold psF fG cdF leF dvF psB
      rw [← hx, hU 256 _ (by decide) (by decide), hU 256 _ (by decide) (by decide), hU 257 _ (by decide) (by decide), hU 258 _ (by decide) (by decide), hU 260 _ (by decide) (by decide)]
      by_cases y : S 256 (x + e.1) = 1 ∧ S 256 (x + U 285 (mLeaf U (e.2 + S 257 (x + e.1)) (U 100 84).toNat)) = 0
      · rw [if_pos y, up2_if]
        by_cases w : z = mLeaf U (e.2 + S 257 (x + e.1)) (U 100 84).toNat
        · rw [if_pos w, w]
          exact (if_pos ⟨y, rfl⟩).symm
        · rw [if_neg w]
          exact (if_neg (fun u => w u.2)).symm
      · rw [if_neg y, if_neg (fun u => y u.1)]
    show (l.foldl (psF U Q) (psF U Q J e)) 287 = l.foldl (fG (cdF S U x) (leF S U x) (dvF S U x Q)) (fG (cdF S U x) (leF S U x) (dvF S U x Q) (J 287) e)
    rw [ihq, st]
/-- what filters and joins ask of the planner's numbers at all times -/
def PlV (I : IT) : Prop := (∀ l, 0 ≤ l → l < 3 → 0 ≤ I 1390 l ∧ I 1390 l ≤ 10) ∧ ∀ p, 0 ≤ p → p < 10 → 0 ≤ I 1393 p
theorem pl1_o {o : Nat} (h1 : o ≠ 1384) (h2 : o ≠ 1390) (h3 : o ≠ 1391) (h4 : o ≠ 1392) (h5 : o ≠ 1393) : pl1 I q top n o = rcI I q top o := dlL_o h1 h2 h3 h4 h5 n
/-- a filter's column lies in the block -/
theorem flt_col (h : Qk I S T q x n) (ht : top < n) {j : Nat} {v : Int} (hj : j < n) (hv : ((j : Int), v) ∈ blkV T x n top 0) (hf : isFlt (S 256 (x + (j : Int)))) : 0 ≤ v ∧ 0 ≤ S 257 (x + j) ∧ v + S 257 (x + j) < wdN S x top := by
  obtain ⟨j', ek, c7, c6, t7, ea⟩ := h.one hj (dOp_flt hf)
  have w := wd_flt h.1.2 hj hf ((h.2.2.1 j hj).1.symm.trans c6)
  have b := blkV_in h n top 0 ht ht _ hv
  have b2 : (0 : Int) ≤ v ∧ v + (wdN S x ((j : Int)).toNat : Int) ≤ 0 + wdN S x top := b
  rw [Int.toNat_natCast] at b2
  omega
theorem af_fold (h : Qk I S T q x n) (hx : x = 12 * (Q + 1)) (hq0 : 10000 ≤ q) (ht : top < n) (n12 : n ≤ 12) (hpl : PlR I S) (hl : (blkL T x n top 0).length ≤ 3) (hB : UB S U (blkL T x n top 0)) {P : Nat → Prop} (hP : ∀ j : Nat, j < n → (P j ↔ rcI I q top 1387 j ≠ 0 ∧ isFlt (S 256 (x + (j : Int))))) :
    ∀ m, m ≤ n → afL (pl1 I q top n) q m 1390 = ((lvR P 0 m).map (fun j : Nat => ((j : Int), rcI I q top 1388 (j : Int)))).foldl (fG (cdF S U x) (leF S U x) (dvF S U x Q)) (pl1 I q top n 1390) := by
  obtain ⟨-, rows, cols⟩ := blk_cols h hx hq0 ht n12 hpl hl hB
  obtain ⟨r1, -⟩ := reach_all h hq0 ht n12
  have n84 : (U 100 84).toNat = (blkL T x n top 0).length := by rw [hB.2.2]; exact Int.toNat_natCast _
  intro m
  induction m with
  | zero => exact fun _ => rfl
  | succ m ihq =>
    intro hm
    have mn : m < n := by omega
    have o3 : afL (pl1 I q top n) q m (q + 3) = I (q + 3) := (afL_o (by omega) m).trans ((pl1_o (by omega) (by omega) (by omega) (by omega) (by omega)).trans (rcI_o (by omega) (by omega)))
    have o4 : afL (pl1 I q top n) q m (q + 4) = I (q + 4) := (afL_o (by omega) m).trans ((pl1_o (by omega) (by omega) (by omega) (by omega) (by omega)).trans (rcI_o (by omega) (by omega)))
    have o7 : afL (pl1 I q top n) q m 1387 = rcI I q top 1387 := (afL_o (by decide) m).trans (pl1_o (by decide) (by decide) (by decide) (by decide) (by decide))
    have o8 : afL (pl1 I q top n) q m 1388 = rcI I q top 1388 := (afL_o (by decide) m).trans (pl1_o (by decide) (by decide) (by decide) (by decide) (by decide))
    have oa : afL (pl1 I q top n) q m 1391 = pl1 I q top n 1391 := afL_o (by decide) m
    have ob : afL (pl1 I q top n) q m 1392 = pl1 I q top n 1392 := afL_o (by decide) m
    have oc : afL (pl1 I q top n) q m 1393 = pl1 I q top n 1393 := afL_o (by decide) m
    obtain ⟨⟨k1, k2, k3⟩, -, -, k6, -⟩ := h.2.1.2 m mn
    have ih1 := ihq (by omega)
    by_cases y : P m
    · obtain ⟨y1, y2⟩ := (hP m mn).mp y
      have es : lvR P 0 (m + 1) = lvR P 0 m ++ [m] := by
        have := lvR_yes (P := P) (a := 0) (m := m) (by rw [Nat.zero_add]; exact y)
        rw [Nat.zero_add] at this
        exact this
      rw [es, List.map_append, List.foldl_append, ← ih1]
      have hv : ((m : Int), rcI I q top 1388 m) ∈ blkV T x n top 0 := by
        rcases r1 m mn with z | z
        · exact z.2
        · exact (y1 z.1).elim
      have fc := flt_col h ht mn hv y2
      obtain ⟨i, k, gk, ⟨c2, c2'⟩, ⟨c3, -⟩, -⟩ := cols (rcI I q top 1388 m + S 257 (x + m)) (by omega) fc.2.2
      obtain ⟨-, c1⟩ := rows i k gk
      have u85 := (hB.2.1 i k gk).1
      rw [← n84] at c2'
      show _ = fG (cdF S U x) (leF S U x) (dvF S U x Q) (afL (pl1 I q top n) q m 1390) ((m : Int), rcI I q top 1388 m)
      have cd0 : cdF S U x ((m : Int), rcI I q top 1388 m) ↔ S 256 (x + m) = 1 ∧ S 256 (x + k.1) = 0 := by
        show (S 256 (x + m) = 1 ∧ S 256 (x + U 285 (mLeaf U (rcI I q top 1388 m + S 257 (x + m)) (U 100 84).toNat)) = 0) ↔ _
        rw [c2', u85]
      have lf0 : leF S U x ((m : Int), rcI I q top 1388 m) = i := c2'
      have dv0 : dvF S U x Q ((m : Int), rcI I q top 1388 m) = if S 258 (x + m) = 1 ∧ S 260 (x + m) = 0 then mVals U Q (rcI I q top 1388 m + S 257 (x + m)) else 3 := rfl
      by_cases k1' : S 256 (x + m) = 1
      · rw [afL_yes ⟨by rw [o7]; exact y1, by rw [o3, k1]; exact k1'⟩]
        have pp : afP (afL (pl1 I q top n) q m) q m = rcI I q top 1388 m + S 257 (x + m) := by
          unfold afP
          rw [o8, o4, k2]
        have dd : afD (afL (pl1 I q top n) q m) q m = dvF S U x Q ((m : Int), rcI I q top 1388 m) := by
          rw [dv0]
          unfold afD
          rw [o4, k3, k6, pp, oc, c3]
        unfold afO
        rw [pp, ob, c2, oa, c1, dd]
        funext z
        unfold fG
        by_cases y3 : S 256 (x + k.1) = 0
        · rw [if_pos y3, if_neg (by decide), up2_if, lf0]
          by_cases w : z = i
          · rw [if_pos w, if_pos ⟨cd0.mpr ⟨k1', y3⟩, w⟩, w]
          · rw [if_neg w, if_neg (fun u => w u.2)]
        · rw [if_neg y3, if_pos rfl, if_neg (fun u => y3 (cd0.mp u.1).2)]
      · rw [afL_no (fun z => k1' (by have := z.2; rw [o3, k1] at this; exact this))]
        funext z
        unfold fG
        rw [if_neg (fun u => k1' (cd0.mp u.1).1)]
    · have es : lvR P 0 (m + 1) = lvR P 0 m := lvR_no (by rw [Nat.zero_add]; exact y)
      rw [es, ← ih1, afL_no (fun z => y ((hP m mn).mpr ⟨by have := z.1; rw [o7] at this; exact this, by
        have := z.2
        rw [o3, k1] at this
        exact Or.inl this⟩))]
/-- class and reference hold the same rows of the leaves behind the filters -/
theorem passes_eq (h : Qk I S T q x n) (hx : x = 12 * (Q + 1)) (hq0 : 10000 ≤ q) (ht : top < n) (n12 : n ≤ 12) (hpl : PlR I S) (hi : mInner T (x + (top : Int))) (hl : (blkL T x n top 0).length ≤ 3) (hB : UB S U (blkL T x n top 0)) {z : Int} (hz : pl1 I q top n 1390 z = J 287 z) :
    pl2 I q top n 1390 z = ((blkF T x n top 0).foldl (psF U Q) J) 287 z := by
  obtain ⟨-, -, cols⟩ := blk_cols h hx hq0 ht n12 hpl hl hB
  obtain ⟨r1, r2⟩ := reach_all h hq0 ht n12
  rw [psF_fold hx (fun o z a b => hB.1 o z (by omega)) (blkF T x n top 0) J]
  have af := af_fold h hx hq0 ht n12 hpl hl hB (P := fun j => rcI I q top 1387 j ≠ 0 ∧ isFlt (S 256 (x + (j : Int)))) (fun j _ => Iff.rfl) top (by omega)
  have e2 : pl2 I q top n 1390 = afL (pl1 I q top n) q top 1390 := rfl
  rw [e2, af]
  have fop : ∀ j : Int, T 256 (x + j) = S 256 (x + j) := fun j => (h.op j).1
  have mem : ∀ e ∈ blkF T x n top 0, ((0 ≤ e.1 ∧ e.1 < top) ∧ e ∈ blkV T x n top 0 ∧ isFlt (S 256 (x + e.1))) := fun e he => by
    obtain ⟨a1, a2, a3⟩ := (blkF_mem n top 0 e).mp he
    have := (r2 e a1).1
    refine ⟨⟨this.1, ?_⟩, a1, by rw [← fop]; exact a3⟩
    have : e.1 ≠ top := fun w => a2 (by rw [w]; exact hi)
    omega
  have pm := asc_perm h hq0 ht n12 (R := blkF T x n top 0) (m := top) (P := fun j => rcI I q top 1387 j ≠ 0 ∧ isFlt (S 256 (x + (j : Int)))) (by omega) (blkF_sub n top 0) (fun e he => (mem e he).1.2) (fun j hj => by
    constructor
    · rintro ⟨y1, y2⟩
      rcases r1 j (by omega) with w | w
      · refine ⟨_, (blkF_mem n top 0 _).mpr ⟨w.2, fun u => ?_, by show isFlt (T 256 (x + (j : Int))); rw [fop]; exact y2⟩⟩
        have u1 : T 256 (x + (j : Int)) = 4 := u.1
        rw [fop] at u1
        unfold isFlt at y2
        omega
      · exact (y1 w.1).elim
    · rintro ⟨v, hv⟩
      obtain ⟨-, a1, a2⟩ := mem _ hv
      have := (r2 _ a1).2.1
      exact ⟨by rw [show rcI I q top 1387 (j : Int) = 1 from this]; decide, a2⟩)
  rw [perm_foldl pm (fun a ha b hb g => fG_comm (fun ca => ?_) (fun cb => ?_) g)]
  · exact fG_at _ _ _ z hz
  all_goals
    first
    | (have ma := mem a (pm.mem_iff.mp ha)
       obtain ⟨j, ej⟩ : ∃ j : Nat, a.1 = j := ⟨a.1.toNat, by omega⟩
       have fc := flt_col h ht (j := j) (v := a.2) (by omega) (by rw [← ej]; exact ma.2.1) (by rw [← ej]; exact ma.2.2)
       obtain ⟨i, k, gk, -, ⟨-, c3⟩, -⟩ := cols (a.2 + S 257 (x + j)) (by omega) fc.2.2
       unfold dvF
       rw [ej]
       split
       · exact c3
       · decide)
    | (have mb := mem b (pm.mem_iff.mp hb)
       obtain ⟨j, ej⟩ : ∃ j : Nat, b.1 = j := ⟨b.1.toNat, by omega⟩
       have fc := flt_col h ht (j := j) (v := b.2) (by omega) (by rw [← ej]; exact mb.2.1) (by rw [← ej]; exact mb.2.2)
       obtain ⟨i, k, gk, -, ⟨-, c3⟩, -⟩ := cols (b.2 + S 257 (x + j)) (by omega) fc.2.2
       unfold dvF
       rw [ej]
       split
       · exact c3
       · decide)
end
