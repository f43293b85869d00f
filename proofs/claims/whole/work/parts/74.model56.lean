section
variable {K : KT} {P : PT} {J I : IT} {Q : PQ}
theorem mLeaf_of {U : IT} {c : Int} (h : ∀ k, U 286 k = I 286 k) : ∀ n : Nat, mLeaf U c n = mLeaf I c n := by
  intro n
  induction n with
  | zero => rfl
  | succ n ih =>
    show (if U 286 n ≤ c then (n : Int) else mLeaf U c n) = _
    rw [h, ih]; rfl
theorem mVals_of {U : IT} {q c : Int} (h : ∀ (o : Nat) (z : Int), o ≠ 283 → U o z = I o z) : mVals U q c = mVals I q c := by
  unfold mVals
  rw [h 100 84 (by decide), mLeaf_of (fun k => h 286 k (by decide)), h 285 _ (by decide), h 256 _ (by decide), h 257 _ (by decide), h 286 _ (by decide), h 292 _ (by decide)]
theorem mVlOK_of {U : IT} {q c : Int} (h : ∀ (o : Nat) (z : Int), o ≠ 283 → U o z = I o z) (hv : mVlOK I q c) : mVlOK U q c := by
  unfold mVlOK at hv ⊢
  rw [h 100 84 (by decide), mLeaf_of (fun k => h 286 k (by decide)), h 285 _ (by decide), h 256 _ (by decide), h 257 _ (by decide), h 286 _ (by decide)]
  exact hv
theorem sp_Model_passes {q first : Int} {n m : Nat} (hM : MW K P) (hq : 0 ≤ q ∧ q < 20) (h84 : I 100 84 = m) (hm : 1 ≤ m ∧ m ≤ 4) (hOK : blkOK I (12 * (q + 1)) n first 0) (hV : ∀ e ∈ blkV I (12 * (q + 1)) n first 0, I 282 e.1 = e.2) (hl : (blkL I (12 * (q + 1)) n first 0).length ≤ 4) (hF : ∀ e ∈ blkF I (12 * (q + 1)) n first 0, (0 ≤ I 257 ((12 * (q + 1)) + e.1) ∧ I 257 ((12 * (q + 1)) + e.1) ≤ 20) ∧ (I 256 ((12 * (q + 1)) + e.1) = 1 → mVlOK I q (e.2 + I 257 ((12 * (q + 1)) + e.1)))) (hJ : ∀ k, 0 ≤ J 287 k ∧ J 287 k ≤ 10) (h292 : ∀ k, 0 ≤ I 292 k ∧ I 292 k ≤ 8) : Sp m_Model_passes false (rmv 2 47) (exW K P (.inl none) (fun J' U => J' = (blkF I (12 * (q + 1)) n first 0).foldl (psF I q) J ∧ ∀ (o : Nat) (z : Int), o ≠ 283 → U o z = I o z)) K P J I [vR (some 100), vI q, vI first] := by
  refine Sp.ofV (by decide) (Or.inr rfl) rfl ?_
  have loop : ∀ (l : Nat) (p : PND) (dF : List (Int × Int)) (JT T : IT), (pV I (12 * (q + 1)) p).length ≤ l → PI J I JT T q (blkF I (12 * (q + 1)) n first 0) dF p → VW m_Model_passes false (rmv 2 47) (exW K P (.inl none) (fun J' U => J' = (blkF I (12 * (q + 1)) n first 0).foldl (psF I q) J ∧ ∀ (o : Nat) (z : Int), o ≠ 283 → U o z = I o z)) K P JT T 0 0 9 [(0, vR (some 100)), (1, vI q), (2, vI first), (3, vI (p.length : Int))] [] := by
    intro l
    induction l with
    | zero =>
      intro p dF JT T hlen h
      cases p with
      | nil =>
        obtain ⟨f1, f2, -, -, a1, -, -⟩ := h
        have b1 : dF = _ := (List.append_nil dF).symm.trans a1
        rw [b1] at f2
        have fin : JT = (blkF I (12 * (q + 1)) n first 0).foldl (psF I q) J ∧ ∀ (o : Nat) (z : Int), o ≠ 283 → T o z = I o z := ⟨f2, f1⟩
        rw [show (((([] : PND).length : Nat)) : Int) = 0 from rfl]
        clear f1 f2 a1 b1
        refine VW.iload_n (pc' := 10) d_Model_passes_9 rfl rfl ?_
        refine VW.if_le (tgt := 226) (pc' := 13) d_Model_passes_10 rfl rfl (fun c10 => ?_) (fun c10 => ?_)
        · exact VW.vret d_Model_passes_226 rfl (Nat.zero_le _) (Nat.zero_le _) (exW_mk fin)
        · exfalso; omega
      | cons e r =>
        exfalso
        have m := pV_mem h.2.2.2.1 (e := e) List.mem_cons_self
        have := List.length_pos_of_mem m
        omega
    | succ l ih =>
      intro p dF JT T hlen h
      cases p with
      | nil => exact ih [] dF JT T (Nat.zero_le _) h
      | cons e r =>
        obtain ⟨f', k, o⟩ := e
        cases f' with
        | zero => exact (h.2.2.2.1 (0, k, o) List.mem_cons_self).elim
        | succ f =>
          have hp := h.2.2.2.1
          have hk : blkOK I (12 * (q + 1)) (f + 1) k o := hp (f + 1, k, o) List.mem_cons_self
          have fr := h.1
          have g := fun (o : Nat) (z : Int) (h1 : o ≠ 283) => fr o z h1
          have lenP := pL_len (I := I) (x := (12 * (q + 1))) _ hp
          have lenL := h.2.2.2.2.2.2
          have lenN : ((f + 1, k, o) :: r : PND).length = r.length + 1 := rfl
          rw [lenN] at lenP
          have lenB : (r.length : Int) ≤ 3 := by omega
          have len : (((f + 1, k, o) :: r : PND).length : Int) = (r.length : Int) + 1 := by rw [lenN]; omega
          have eJT := h.2.1
          have hJT : ∀ k, 0 ≤ JT 287 k ∧ JT 287 k ≤ 10 := by rw [eJT]; exact foldl_rg h292 _ _ hJ
          have s1 : T 283 r.length = k := h.2.2.1.1
          have nI : mInner I ((12 * (q + 1)) + k) → VW m_Model_passes false (rmv 2 47) (exW K P (.inl none) (fun J' U => J' = (blkF I (12 * (q + 1)) n first 0).foldl (psF I q) J ∧ ∀ (o : Nat) (z : Int), o ≠ 283 → U o z = I o z)) K P JT (up2 (up2 T 283 r.length (I 280 k)) 283 ((r.length : Int) + 1) (I 279 k)) 0 0 9 [(0, vR (some 100)), (1, vI q), (2, vI first), (3, vI ((r.length : Int) + 2))] [] := fun z => by
            have z3 := ih _ _ _ _ (by
              have e1 : pV I (12 * (q + 1)) ((f + 1, k, o) :: r) = (k, o) :: pV I (12 * (q + 1)) ((f, I 279 k, o) :: (f, I 280 k, o + I 281 (I 279 k)) :: r) := by
                show blkV I (12 * (q + 1)) (f + 1) k o ++ pV I (12 * (q + 1)) r = _ :: (blkV I (12 * (q + 1)) f (I 279 k) o ++ (blkV I (12 * (q + 1)) f (I 280 k) (o + I 281 (I 279 k)) ++ pV I (12 * (q + 1)) r))
                rw [(blk_i z).2.2, List.cons_append, List.append_assoc]
              rw [e1, List.length_cons] at hlen; omega) (h.inner z)
            rw [show ((((f, I 279 k, o) :: (f, I 280 k, o + I 281 (I 279 k)) :: r : PND).length : Nat) : Int) = (r.length : Int) + 2 by show ((r.length + 1 + 1 : Nat) : Int) = _; omega] at z3
            exact z3
          have nF : ¬ mInner I ((12 * (q + 1)) + k) → isFlt (I 256 ((12 * (q + 1)) + k)) → ((k, o) ∈ blkF I (12 * (q + 1)) n first 0 ∧ I 282 k = o) ∧ VW m_Model_passes false (rmv 2 47) (exW K P (.inl none) (fun J' U => J' = (blkF I (12 * (q + 1)) n first 0).foldl (psF I q) J ∧ ∀ (o : Nat) (z : Int), o ≠ 283 → U o z = I o z)) K P (psF I q JT (k, o)) (up2 T 283 r.length (I 279 k)) 0 0 9 [(0, vR (some 100)), (1, vI q), (2, vI first), (3, vI ((r.length : Int) + 1))] [] := fun z y => by
            obtain ⟨z1, z2, z4⟩ := h.filter z y
            have z3 := ih _ _ _ _ (by
              have e1 : pV I (12 * (q + 1)) ((f + 1, k, o) :: r) = (k, o) :: pV I (12 * (q + 1)) ((f, I 279 k, o) :: r) := by
                show blkV I (12 * (q + 1)) (f + 1) k o ++ pV I (12 * (q + 1)) r = _ :: (blkV I (12 * (q + 1)) f (I 279 k) o ++ pV I (12 * (q + 1)) r)
                rw [(blk_f z y).2.2, List.cons_append]
              rw [e1, List.length_cons] at hlen; omega) z4
            rw [show ((((f, I 279 k, o) :: r : PND).length : Nat) : Int) = (r.length : Int) + 1 by show ((r.length + 1 : Nat) : Int) = _; omega] at z3
            exact ⟨⟨z1, z2⟩, z3⟩
          have nL : ¬ mInner I ((12 * (q + 1)) + k) → ¬ isFlt (I 256 ((12 * (q + 1)) + k)) → VW m_Model_passes false (rmv 2 47) (exW K P (.inl none) (fun J' U => J' = (blkF I (12 * (q + 1)) n first 0).foldl (psF I q) J ∧ ∀ (o : Nat) (z : Int), o ≠ 283 → U o z = I o z)) K P JT T 0 0 9 [(0, vR (some 100)), (1, vI q), (2, vI first), (3, vI (r.length : Int))] [] := fun z y => ih _ _ _ _ (by
            have e1 : pV I (12 * (q + 1)) ((f + 1, k, o) :: r) = (k, o) :: pV I (12 * (q + 1)) r := by
              show blkV I (12 * (q + 1)) (f + 1) k o ++ pV I (12 * (q + 1)) r = _
              rw [(blk_l z y).2.2]; rfl
            rw [e1, List.length_cons] at hlen; omega) (h.leaf z y)
          have kI := hk.2.1
          have kF := hk.2.2.1
          have k0 : (0 ≤ k ∧ k < 12) ∧ (0 ≤ o ∧ o ≤ 20) := hk.1
          have mi : Sp m_Model_isInner false (rmv 1 20) (ex K P JT T (.inl (some (vI (bI (mInner I ((12 * (q + 1)) + k))))))) K P JT T [vR (some 100), vI q, vI k] := by
            have h := sp_Model_isInner (K := K) (P := P) (J := JT) (I := T) (q := q) (n := k) hM hq k0.1
            rw [show mInner T (12 * (q + 1) + k) = mInner I (12 * (q + 1) + k) from by unfold mInner; rw [g 256 _ (by decide), g 257 _ (by decide)]] at h
            exact h
          have g279 := g 279 k (by decide)
          have g280 := g 280 k (by decide)
          have g256 := g 256 ((12 * (q + 1)) + k) (by decide)
          have e0 : (r.length : Int) + 1 + -1 = r.length := by omega
          have fU : ∀ (o : Nat) (z : Int), o ≠ 283 → up2 T 283 r.length (I 279 k) o z = I o z := fun o z ho => (up2_o _ _ _ _ ho).trans (fr o z ho)
          rw [len]
          clear ih h hp hk hlen hOK hV hl lenL lenP eJT hJ fr
          have tail : ¬ mInner I ((12 * (q + 1)) + k) → isFlt (I 256 ((12 * (q + 1)) + k)) → VW m_Model_passes false (rmv 2 47) (exW K P (.inl none) (fun J' U => J' = (blkF I (12 * (q + 1)) n first 0).foldl (psF I q) J ∧ ∀ (o : Nat) (z : Int), o ≠ 283 → U o z = I o z)) K P JT (up2 T 283 r.length (I 279 k)) 0 0 106 [(0, vR (some 100)), (1, vI q), (2, vI first), (3, vI ((r.length : Int) + 1)), (4, vI k), (5, vI ((12 * (q + 1)) + k))] [] := by
            intro z y
            obtain ⟨⟨z1, z2⟩, nx⟩ := nF z y
            obtain ⟨v1, v2⟩ := hF (k, o) z1
            have v1' : 0 ≤ I 257 ((12 * (q + 1)) + k) ∧ I 257 ((12 * (q + 1)) + k) ≤ 20 := v1
            have v2' : I 256 ((12 * (q + 1)) + k) = 1 → mVlOK I q (o + I 257 ((12 * (q + 1)) + k)) := v2
            clear nI nF nL kI kF mi hF v1 v2 z1
            obtain ⟨c, hc⟩ : ∃ c, c = o + I 257 ((12 * (q + 1)) + k) := ⟨_, rfl⟩
            obtain ⟨lf, hlf⟩ : ∃ lf, lf = mLeaf I c (I 100 84).toNat := ⟨_, rfl⟩
            have lr := mLeaf_rg (I := I) c (I 100 84).toNat
            rw [← hlf] at lr
            have lo := sp_Model_leafOf (K := K) (P := P) (J := JT) (I := (up2 T 283 r.length (I 279 k))) (c := c) hM (by rw [fU 100 84 (by decide)]; omega)
            rw [fU 100 84 (by decide), mLeaf_of (fun k => fU 286 k (by decide)), ← hlf] at lo
            have vv : I 256 ((12 * (q + 1)) + k) = 1 → Sp m_Model_valuesOf false (rmv 1 23) (ex K P JT (up2 T 283 r.length (I 279 k)) (.inl (some (vI (mVals I q c))))) K P JT (up2 T 283 r.length (I 279 k)) [vR (some 100), vI q, vI c] := fun y1 => by
              have h := sp_Model_valuesOf (K := K) (P := P) (J := JT) (I := (up2 T 283 r.length (I 279 k))) (q := q) (c := c) hM hq (by rw [fU 100 84 (by decide)]; omega) (mVlOK_of fU (by rw [hc]; exact v2' y1))
              rw [mVals_of fU] at h
              exact h
            have i285 : I 256 ((12 * (q + 1)) + k) = 1 → 0 ≤ I 285 lf ∧ I 285 lf < 12 := fun y1 => by
              have := (v2' y1).2.1
              rw [← hc, ← hlf] at this
              exact this
            have n0 := fun (w : ¬ (I 256 ((12 * (q + 1)) + k) = 1 ∧ I 256 ((12 * (q + 1)) + I 285 lf) = 0)) => (by rw [psF_0 hc hlf w] at nx; exact nx : VW m_Model_passes false (rmv 2 47) (exW K P (.inl none) (fun J' U => J' = (blkF I (12 * (q + 1)) n first 0).foldl (psF I q) J ∧ ∀ (o : Nat) (z : Int), o ≠ 283 → U o z = I o z)) K P JT (up2 T 283 r.length (I 279 k)) 0 0 9 [(0, vR (some 100)), (1, vI q), (2, vI first), (3, vI ((r.length : Int) + 1))] [])
            have n1 := fun (w : I 256 ((12 * (q + 1)) + k) = 1) (w2 : I 256 ((12 * (q + 1)) + I 285 lf) = 0) (b : Int) (hb : b = psB I q k c) => (by rw [psF_1 hc hlf w w2, ← hb] at nx; exact nx : VW m_Model_passes false (rmv 2 47) (exW K P (.inl none) (fun J' U => J' = (blkF I (12 * (q + 1)) n first 0).foldl (psF I q) J ∧ ∀ (o : Nat) (z : Int), o ≠ 283 → U o z = I o z)) K P (up2 JT 287 lf (mDiv (JT 287 lf) b)) (up2 T 283 r.length (I 279 k)) 0 0 9 [(0, vR (some 100)), (1, vI q), (2, vI first), (3, vI ((r.length : Int) + 1))] [])
            have b1 : I 258 ((12 * (q + 1)) + k) = 1 → I 260 ((12 * (q + 1)) + k) = 0 → mVals I q c = psB I q k c := fun a b => (if_pos ⟨a, b⟩).symm
            have b2 : ¬ (I 258 ((12 * (q + 1)) + k) = 1 ∧ I 260 ((12 * (q + 1)) + k) = 0) → 3 = psB I q k c := fun a => (if_neg a).symm
            have vr := mVals_rg (q := q) (c := c) h292
            have jl := hJT lf
            have u282 : (up2 T 283 r.length (I 279 k)) 282 k = o := (fU 282 k (by decide)).trans z2
            have u257 := fU 257 ((12 * (q + 1)) + k) (by decide)
            have u256 := fU 256 ((12 * (q + 1)) + k) (by decide)
            have u256b := fU 256 ((12 * (q + 1)) + I 285 lf) (by decide)
            have u285 := fU 285 lf (by decide)
            have u258 := fU 258 ((12 * (q + 1)) + k) (by decide)
            have u260 := fU 260 ((12 * (q + 1)) + k) (by decide)
            clear nx fU v2' hJT
            have t123 : VW m_Model_passes false (rmv 2 47) (exW K P (.inl none) (fun J' U => J' = (blkF I (12 * (q + 1)) n first 0).foldl (psF I q) J ∧ ∀ (o : Nat) (z : Int), o ≠ 283 → U o z = I o z)) K P JT (up2 T 283 r.length (I 279 k)) 0 0 123 [(0, vR (some 100)), (1, vI q), (2, vI first), (3, vI ((r.length : Int) + 1)), (4, vI k), (5, vI ((12 * (q + 1)) + k)), (6, vI c)] [] := by
              refine VW.aload_n (pc' := 124) d_Model_passes_123 rfl rfl ?_
              refine VW.iload (pc' := 126) d_Model_passes_124 rfl rfl ?_
              refine VW.cV (ci := 11) (T := T11) (N := 94) (pc' := 129) d_Model_passes_126 rfl mv_Model_leafOf lk_Model_517 rfl (hM.k rfl) rfl rfl rfl (Nat.le_refl _) (Nat.le_refl _) (lo) rfl rfl ?_
              refine VW.istore (pc' := 131) d_Model_passes_129 rfl rfl ?_
              refine VW.aload_n (pc' := 132) d_Model_passes_131 rfl rfl ?_
              refine VW.gP (ci := 11) (T := T11) (N := 94) (k := 56) (k' := 56) (pc' := 135) d_Model_passes_132 rfl lk_Model_144 in11 rfl rfl rfl rfl (hM.k rfl) (hM.p (r := some 256) 56 rfl rfl) ?_
              refine VW.iload (pc' := 137) d_Model_passes_135 rfl rfl ?_
              refine VW.ild (pc' := 138) d_Model_passes_137 rfl (hM.k rfl) (by omega) (by omega) (by first | exact u282 | exact u257 | exact u256 | exact u256b | exact u285 | exact u258 | exact u260 | rfl) ?_
              refine VW.iconst (pc' := 139) d_Model_passes_138 rfl (by decide) ?_
              refine VW.icmp_ne (tgt := 223) (pc' := 142) d_Model_passes_139 rfl rfl (fun c139 => ?_) (fun c139 => ?_)
              · refine VW.goto (pc' := 9) d_Model_passes_223 rfl ?_
                refine VW.pick [0, 1, 2, 3] ?_
                first | exact n0 (fun w => c139 w.1) | exact n0 (fun w => c159 w.2) | exact n1 c139 c159 _ (b1 c170 c180) | exact n1 c139 c159 _ (b2 (fun w => c170 w.1)) | exact n1 c139 c159 _ (b2 (fun w => c180 w.2))
              · have i1 := i285 c139
                refine VW.aload_n (pc' := 143) d_Model_passes_142 rfl rfl ?_
                refine VW.gP (ci := 11) (T := T11) (N := 94) (k := 56) (k' := 56) (pc' := 146) d_Model_passes_143 rfl lk_Model_144 in11 rfl rfl rfl rfl (hM.k rfl) (hM.p (r := some 256) 56 rfl rfl) ?_
                refine VW.iload_n (pc' := 147) d_Model_passes_146 rfl rfl ?_
                refine VW.cS (pc' := 150) d_Model_passes_147 rfl ms_Model_base lk_Model_431 rfl rfl rfl (Nat.le_refl _) (Nat.le_refl _) (sp_Model_base (by omega)) rfl rfl ?_
                refine VW.aload_n (pc' := 151) d_Model_passes_150 rfl rfl ?_
                refine VW.gP (ci := 11) (T := T11) (N := 94) (k := 85) (k' := 85) (pc' := 154) d_Model_passes_151 rfl lk_Model_209 in11 rfl rfl rfl rfl (hM.k rfl) (hM.p (r := some 285) 85 rfl rfl) ?_
                refine VW.iload (pc' := 156) d_Model_passes_154 rfl rfl ?_
                refine VW.ild (pc' := 157) d_Model_passes_156 rfl (hM.k rfl) (by omega) (by omega) (by first | exact u282 | exact u257 | exact u256 | exact u256b | exact u285 | exact u258 | exact u260 | rfl) ?_
                refine VW.iadd (pc' := 158) d_Model_passes_157 rfl (by omega) ?_
                refine VW.ild (pc' := 159) d_Model_passes_158 rfl (hM.k rfl) (by omega) (by omega) (by first | exact u282 | exact u257 | exact u256 | exact u256b | exact u285 | exact u258 | exact u260 | rfl) ?_
                refine VW.if_ne (tgt := 223) (pc' := 162) d_Model_passes_159 rfl rfl (fun c159 => ?_) (fun c159 => ?_)
                · try have e159 := bIn c159
                  refine VW.goto (pc' := 9) d_Model_passes_223 rfl ?_
                  refine VW.pick [0, 1, 2, 3] ?_
                  first | exact n0 (fun w => c139 w.1) | exact n0 (fun w => c159 w.2) | exact n1 c139 c159 _ (b1 c170 c180) | exact n1 c139 c159 _ (b2 (fun w => c170 w.1)) | exact n1 c139 c159 _ (b2 (fun w => c180 w.2))
                · try have e159 := bIe c159
                  refine VW.aload_n (pc' := 163) d_Model_passes_162 rfl rfl ?_
                  refine VW.gP (ci := 11) (T := T11) (N := 94) (k := 58) (k' := 58) (pc' := 166) d_Model_passes_163 rfl lk_Model_150 in11 rfl rfl rfl rfl (hM.k rfl) (hM.p (r := some 258) 58 rfl rfl) ?_
                  refine VW.iload (pc' := 168) d_Model_passes_166 rfl rfl ?_
                  refine VW.ild (pc' := 169) d_Model_passes_168 rfl (hM.k rfl) (by omega) (by omega) (by first | exact u282 | exact u257 | exact u256 | exact u256b | exact u285 | exact u258 | exact u260 | rfl) ?_
                  refine VW.iconst (pc' := 170) d_Model_passes_169 rfl (by decide) ?_
                  refine VW.icmp_ne (tgt := 187) (pc' := 173) d_Model_passes_170 rfl rfl (fun c170 => ?_) (fun c170 => ?_)
                  · refine VW.iconst (pc' := 188) d_Model_passes_187 rfl (by decide) ?_
                    refine VW.istore (pc' := 190) d_Model_passes_188 rfl rfl ?_
                    refine VW.aload_n (pc' := 191) d_Model_passes_190 rfl rfl ?_
                    refine VW.gP (ci := 11) (T := T11) (N := 94) (k := 87) (k' := 87) (pc' := 194) d_Model_passes_191 rfl lk_Model_215 in11 rfl rfl rfl rfl (hM.k rfl) (hM.p (r := some 287) 87 rfl rfl) ?_
                    refine VW.iload (pc' := 196) d_Model_passes_194 rfl rfl ?_
                    refine VW.aload_n (pc' := 197) d_Model_passes_196 rfl rfl ?_
                    refine VW.gP (ci := 11) (T := T11) (N := 94) (k := 87) (k' := 87) (pc' := 200) d_Model_passes_197 rfl lk_Model_215 in11 rfl rfl rfl rfl (hM.k rfl) (hM.p (r := some 287) 87 rfl rfl) ?_
                    refine VW.iload (pc' := 202) d_Model_passes_200 rfl rfl ?_
                    refine VW.lld (pc' := 203) d_Model_passes_202 rfl (hM.k rfl) (by omega) (by omega) (by first | exact u282 | exact u257 | exact u256 | exact u256b | exact u285 | exact u258 | exact u260 | rfl) ?_
                    refine VW.iload (pc' := 205) d_Model_passes_203 rfl rfl ?_
                    refine VW.if_eq (tgt := 218) (pc' := 208) d_Model_passes_205 rfl rfl (fun _ => ?_) (fun c205 => absurd c205 (by decide))
                    refine VW.iconst (pc' := 219) d_Model_passes_218 rfl (by decide) ?_
                    refine VW.cS (pc' := 222) d_Model_passes_219 rfl ms_Model_divided lk_Model_523 rfl rfl rfl (Nat.le_refl _) (Nat.le_refl _) (sp_Model_divided (by omega) (by omega)) rfl rfl ?_
                    refine VW.last (pc' := 223) d_Model_passes_222 rfl (hM.k rfl) (by omega) (by omega) ?_
                    refine VW.goto (pc' := 9) d_Model_passes_223 rfl ?_
                    refine VW.pick [0, 1, 2, 3] ?_
                    first | exact n0 (fun w => c139 w.1) | exact n0 (fun w => c159 w.2) | exact n1 c139 c159 _ (b1 c170 c180) | exact n1 c139 c159 _ (b2 (fun w => c170 w.1)) | exact n1 c139 c159 _ (b2 (fun w => c180 w.2))
                  · refine VW.aload_n (pc' := 174) d_Model_passes_173 rfl rfl ?_
                    refine VW.gP (ci := 11) (T := T11) (N := 94) (k := 60) (k' := 60) (pc' := 177) d_Model_passes_174 rfl lk_Model_156 in11 rfl rfl rfl rfl (hM.k rfl) (hM.p (r := some 260) 60 rfl rfl) ?_
                    refine VW.iload (pc' := 179) d_Model_passes_177 rfl rfl ?_
                    refine VW.zld (pc' := 180) d_Model_passes_179 rfl (hM.k rfl) (by omega) (by omega) (by first | exact u282 | exact u257 | exact u256 | exact u256b | exact u285 | exact u258 | exact u260 | rfl) ?_
                    refine VW.if_ne (tgt := 187) (pc' := 183) d_Model_passes_180 rfl rfl (fun c180 => ?_) (fun c180 => ?_)
                    · try have e180 := bIn c180
                      refine VW.iconst (pc' := 188) d_Model_passes_187 rfl (by decide) ?_
                      refine VW.istore (pc' := 190) d_Model_passes_188 rfl rfl ?_
                      refine VW.aload_n (pc' := 191) d_Model_passes_190 rfl rfl ?_
                      refine VW.gP (ci := 11) (T := T11) (N := 94) (k := 87) (k' := 87) (pc' := 194) d_Model_passes_191 rfl lk_Model_215 in11 rfl rfl rfl rfl (hM.k rfl) (hM.p (r := some 287) 87 rfl rfl) ?_
                      refine VW.iload (pc' := 196) d_Model_passes_194 rfl rfl ?_
                      refine VW.aload_n (pc' := 197) d_Model_passes_196 rfl rfl ?_
                      refine VW.gP (ci := 11) (T := T11) (N := 94) (k := 87) (k' := 87) (pc' := 200) d_Model_passes_197 rfl lk_Model_215 in11 rfl rfl rfl rfl (hM.k rfl) (hM.p (r := some 287) 87 rfl rfl) ?_
                      refine VW.iload (pc' := 202) d_Model_passes_200 rfl rfl ?_
                      refine VW.lld (pc' := 203) d_Model_passes_202 rfl (hM.k rfl) (by omega) (by omega) (by first | exact u282 | exact u257 | exact u256 | exact u256b | exact u285 | exact u258 | exact u260 | rfl) ?_
                      refine VW.iload (pc' := 205) d_Model_passes_203 rfl rfl ?_
                      refine VW.if_eq (tgt := 218) (pc' := 208) d_Model_passes_205 rfl rfl (fun _ => ?_) (fun c205 => absurd c205 (by decide))
                      refine VW.iconst (pc' := 219) d_Model_passes_218 rfl (by decide) ?_
                      refine VW.cS (pc' := 222) d_Model_passes_219 rfl ms_Model_divided lk_Model_523 rfl rfl rfl (Nat.le_refl _) (Nat.le_refl _) (sp_Model_divided (by omega) (by omega)) rfl rfl ?_
                      refine VW.last (pc' := 223) d_Model_passes_222 rfl (hM.k rfl) (by omega) (by omega) ?_
                      refine VW.goto (pc' := 9) d_Model_passes_223 rfl ?_
                      refine VW.pick [0, 1, 2, 3] ?_
                      first | exact n0 (fun w => c139 w.1) | exact n0 (fun w => c159 w.2) | exact n1 c139 c159 _ (b1 c170 c180) | exact n1 c139 c159 _ (b2 (fun w => c170 w.1)) | exact n1 c139 c159 _ (b2 (fun w => c180 w.2))
                    · try have e180 := bIe c180
                      refine VW.iconst (pc' := 184) d_Model_passes_183 rfl (by decide) ?_
                      refine VW.goto (pc' := 188) d_Model_passes_184 rfl ?_
                      refine VW.istore (pc' := 190) d_Model_passes_188 rfl rfl ?_
                      refine VW.aload_n (pc' := 191) d_Model_passes_190 rfl rfl ?_
                      refine VW.gP (ci := 11) (T := T11) (N := 94) (k := 87) (k' := 87) (pc' := 194) d_Model_passes_191 rfl lk_Model_215 in11 rfl rfl rfl rfl (hM.k rfl) (hM.p (r := some 287) 87 rfl rfl) ?_
                      refine VW.iload (pc' := 196) d_Model_passes_194 rfl rfl ?_
                      refine VW.aload_n (pc' := 197) d_Model_passes_196 rfl rfl ?_
                      refine VW.gP (ci := 11) (T := T11) (N := 94) (k := 87) (k' := 87) (pc' := 200) d_Model_passes_197 rfl lk_Model_215 in11 rfl rfl rfl rfl (hM.k rfl) (hM.p (r := some 287) 87 rfl rfl) ?_
                      refine VW.iload (pc' := 202) d_Model_passes_200 rfl rfl ?_
                      refine VW.lld (pc' := 203) d_Model_passes_202 rfl (hM.k rfl) (by omega) (by omega) (by first | exact u282 | exact u257 | exact u256 | exact u256b | exact u285 | exact u258 | exact u260 | rfl) ?_
                      refine VW.iload (pc' := 205) d_Model_passes_203 rfl rfl ?_
                      refine VW.if_eq (tgt := 218) (pc' := 208) d_Model_passes_205 rfl rfl (fun c205 => absurd c205 (by decide)) (fun _ => ?_)
                      refine VW.aload_n (pc' := 209) d_Model_passes_208 rfl rfl ?_
                      refine VW.iload_n (pc' := 210) d_Model_passes_209 rfl rfl ?_
                      refine VW.iload (pc' := 212) d_Model_passes_210 rfl rfl ?_
                      refine VW.cV (ci := 11) (T := T11) (N := 94) (pc' := 215) d_Model_passes_212 rfl mv_Model_valuesOf lk_Model_520 rfl (hM.k rfl) rfl rfl rfl (Nat.le_refl _) (Nat.le_refl _) (vv c139) rfl rfl ?_
                      refine VW.goto (pc' := 219) d_Model_passes_215 rfl ?_
                      refine VW.cS (pc' := 222) d_Model_passes_219 rfl ms_Model_divided lk_Model_523 rfl rfl rfl (Nat.le_refl _) (Nat.le_refl _) (sp_Model_divided (by omega) (by omega)) rfl rfl ?_
                      refine VW.last (pc' := 223) d_Model_passes_222 rfl (hM.k rfl) (by omega) (by omega) ?_
                      refine VW.goto (pc' := 9) d_Model_passes_223 rfl ?_
                      refine VW.pick [0, 1, 2, 3] ?_
                      first | exact n0 (fun w => c139 w.1) | exact n0 (fun w => c159 w.2) | exact n1 c139 c159 _ (b1 c170 c180) | exact n1 c139 c159 _ (b2 (fun w => c170 w.1)) | exact n1 c139 c159 _ (b2 (fun w => c180 w.2))
            rw [hc] at t123
            clear lo vv i285 n0 n1 b1 b2
            refine VW.aload_n (pc' := 107) d_Model_passes_106 rfl rfl ?_
            refine VW.gP (ci := 11) (T := T11) (N := 94) (k := 82) (k' := 82) (pc' := 110) d_Model_passes_107 rfl lk_Model_203 in11 rfl rfl rfl rfl (hM.k rfl) (hM.p (r := some 282) 82 rfl rfl) ?_
            refine VW.iload (pc' := 112) d_Model_passes_110 rfl rfl ?_
            refine VW.ild (pc' := 113) d_Model_passes_112 rfl (hM.k rfl) (by omega) (by omega) (by first | exact u282 | exact u257 | exact u256 | exact u256b | exact u285 | exact u258 | exact u260 | rfl) ?_
            refine VW.aload_n (pc' := 114) d_Model_passes_113 rfl rfl ?_
            refine VW.gP (ci := 11) (T := T11) (N := 94) (k := 57) (k' := 57) (pc' := 117) d_Model_passes_114 rfl lk_Model_147 in11 rfl rfl rfl rfl (hM.k rfl) (hM.p (r := some 257) 57 rfl rfl) ?_
            refine VW.iload (pc' := 119) d_Model_passes_117 rfl rfl ?_
            refine VW.ild (pc' := 120) d_Model_passes_119 rfl (hM.k rfl) (by omega) (by omega) (by first | exact u282 | exact u257 | exact u256 | exact u256b | exact u285 | exact u258 | exact u260 | rfl) ?_
            refine VW.iadd (pc' := 121) d_Model_passes_120 rfl (by omega) ?_
            refine VW.istore (pc' := 123) d_Model_passes_121 rfl rfl ?_
            refine VW.pick [0, 1, 2, 3, 4, 5, 6] ?_
            exact t123
          refine VW.iload_n (pc' := 10) d_Model_passes_9 rfl rfl ?_
          refine VW.if_le (tgt := 226) (pc' := 13) d_Model_passes_10 rfl rfl (fun c10 => ?_) (fun c10 => ?_)
          · exfalso; omega
          · refine VW.iinc (pc' := 16) d_Model_passes_13 rfl rfl rfl (by omega) ?_
            rw [e0]
            refine VW.aload_n (pc' := 17) d_Model_passes_16 rfl rfl ?_
            refine VW.gP (ci := 11) (T := T11) (N := 94) (k := 83) (k' := 83) (pc' := 20) d_Model_passes_17 rfl lk_Model_206 in11 rfl rfl rfl rfl (hM.k rfl) (hM.p (r := some 283) 83 rfl rfl) ?_
            refine VW.iload_n (pc' := 21) d_Model_passes_20 rfl rfl ?_
            refine VW.ild (pc' := 22) d_Model_passes_21 rfl (hM.k rfl) (by omega) (by omega) (by first | exact s1 | exact g279 | exact g280 | exact g256 | exact r3 | rfl) ?_
            refine VW.istore (pc' := 24) d_Model_passes_22 rfl rfl ?_
            refine VW.iload_n (pc' := 25) d_Model_passes_24 rfl rfl ?_
            refine VW.cS (pc' := 28) d_Model_passes_25 rfl ms_Model_base lk_Model_431 rfl rfl rfl (Nat.le_refl _) (Nat.le_refl _) (sp_Model_base (by omega)) rfl rfl ?_
            refine VW.iload (pc' := 30) d_Model_passes_28 rfl rfl ?_
            refine VW.iadd (pc' := 31) d_Model_passes_30 rfl (by omega) ?_
            refine VW.istore (pc' := 33) d_Model_passes_31 rfl rfl ?_
            refine VW.aload_n (pc' := 34) d_Model_passes_33 rfl rfl ?_
            refine VW.iload_n (pc' := 35) d_Model_passes_34 rfl rfl ?_
            refine VW.iload (pc' := 37) d_Model_passes_35 rfl rfl ?_
            refine VW.cV (ci := 11) (T := T11) (N := 94) (pc' := 40) d_Model_passes_37 rfl mv_Model_isInner lk_Model_507 rfl (hM.k rfl) rfl rfl rfl (Nat.le_refl _) (Nat.le_refl _) (mi) rfl rfl ?_
            refine VW.if_eq (tgt := 77) (pc' := 43) d_Model_passes_40 rfl rfl (fun c40 => ?_) (fun c40 => ?_)
            · try have e40 := bIe c40
              refine VW.aload_n (pc' := 78) d_Model_passes_77 rfl rfl ?_
              refine VW.gP (ci := 11) (T := T11) (N := 94) (k := 56) (k' := 56) (pc' := 81) d_Model_passes_78 rfl lk_Model_144 in11 rfl rfl rfl rfl (hM.k rfl) (hM.p (r := some 256) 56 rfl rfl) ?_
              refine VW.iload (pc' := 83) d_Model_passes_81 rfl rfl ?_
              refine VW.ild (pc' := 84) d_Model_passes_83 rfl (hM.k rfl) (by omega) (by omega) (by first | exact s1 | exact g279 | exact g280 | exact g256 | exact r3 | rfl) ?_
              refine VW.cS (pc' := 87) d_Model_passes_84 rfl ms_Model_isFilter lk_Model_504 rfl rfl rfl (Nat.le_refl _) (Nat.le_refl _) (sp_Model_isFilter) rfl rfl ?_
              refine VW.if_eq (tgt := 223) (pc' := 90) d_Model_passes_87 rfl rfl (fun c87 => ?_) (fun c87 => ?_)
              · try have e87 := bIe c87
                refine VW.goto (pc' := 9) d_Model_passes_223 rfl ?_
                refine VW.pick [0, 1, 2, 3] ?_
                first | exact nx | exact nL e40 e87
              · try have e87 := bIn c87
                have tl := tail e40 e87
                obtain ⟨w2, -⟩ := kF e40 e87
                clear nI nF nL kI kF mi fU hF tail
                refine VW.aload_n (pc' := 91) d_Model_passes_90 rfl rfl ?_
                refine VW.gP (ci := 11) (T := T11) (N := 94) (k := 83) (k' := 83) (pc' := 94) d_Model_passes_91 rfl lk_Model_206 in11 rfl rfl rfl rfl (hM.k rfl) (hM.p (r := some 283) 83 rfl rfl) ?_
                refine VW.iload_n (pc' := 95) d_Model_passes_94 rfl rfl ?_
                refine VW.aload_n (pc' := 96) d_Model_passes_95 rfl rfl ?_
                refine VW.gP (ci := 11) (T := T11) (N := 94) (k := 79) (k' := 79) (pc' := 99) d_Model_passes_96 rfl lk_Model_194 in11 rfl rfl rfl rfl (hM.k rfl) (hM.p (r := some 279) 79 rfl rfl) ?_
                refine VW.iload (pc' := 101) d_Model_passes_99 rfl rfl ?_
                refine VW.ild (pc' := 102) d_Model_passes_101 rfl (hM.k rfl) (by omega) (by omega) (by first | exact s1 | exact g279 | exact g280 | exact g256 | exact r3 | rfl) ?_
                refine VW.iast (pc' := 103) d_Model_passes_102 rfl (hM.k rfl) (by omega) (by omega) ?_
                refine VW.iinc (pc' := 106) d_Model_passes_103 rfl rfl rfl (by omega) ?_
                refine VW.pick [0, 1, 2, 3, 4, 5] ?_
                exact tl
            · try have e40 := bIn c40
              have nx := nI e40
              obtain ⟨-, w1, w2, -, -⟩ := kI e40
              clear nI nF nL kI kF mi fU hF
              have r3 : (up2 T 283 r.length (I 280 k)) 279 k = I 279 k := (up2_o _ _ _ _ (by decide)).trans g279
              refine VW.aload_n (pc' := 44) d_Model_passes_43 rfl rfl ?_
              refine VW.gP (ci := 11) (T := T11) (N := 94) (k := 83) (k' := 83) (pc' := 47) d_Model_passes_44 rfl lk_Model_206 in11 rfl rfl rfl rfl (hM.k rfl) (hM.p (r := some 283) 83 rfl rfl) ?_
              refine VW.iload_n (pc' := 48) d_Model_passes_47 rfl rfl ?_
              refine VW.aload_n (pc' := 49) d_Model_passes_48 rfl rfl ?_
              refine VW.gP (ci := 11) (T := T11) (N := 94) (k := 80) (k' := 80) (pc' := 52) d_Model_passes_49 rfl lk_Model_197 in11 rfl rfl rfl rfl (hM.k rfl) (hM.p (r := some 280) 80 rfl rfl) ?_
              refine VW.iload (pc' := 54) d_Model_passes_52 rfl rfl ?_
              refine VW.ild (pc' := 55) d_Model_passes_54 rfl (hM.k rfl) (by omega) (by omega) (by first | exact s1 | exact g279 | exact g280 | exact g256 | exact r3 | rfl) ?_
              refine VW.iast (pc' := 56) d_Model_passes_55 rfl (hM.k rfl) (by omega) (by omega) ?_
              refine VW.aload_n (pc' := 57) d_Model_passes_56 rfl rfl ?_
              refine VW.gP (ci := 11) (T := T11) (N := 94) (k := 83) (k' := 83) (pc' := 60) d_Model_passes_57 rfl lk_Model_206 in11 rfl rfl rfl rfl (hM.k rfl) (hM.p (r := some 283) 83 rfl rfl) ?_
              refine VW.iload_n (pc' := 61) d_Model_passes_60 rfl rfl ?_
              refine VW.iconst (pc' := 62) d_Model_passes_61 rfl (by decide) ?_
              refine VW.iadd (pc' := 63) d_Model_passes_62 rfl (by omega) ?_
              refine VW.aload_n (pc' := 64) d_Model_passes_63 rfl rfl ?_
              refine VW.gP (ci := 11) (T := T11) (N := 94) (k := 79) (k' := 79) (pc' := 67) d_Model_passes_64 rfl lk_Model_194 in11 rfl rfl rfl rfl (hM.k rfl) (hM.p (r := some 279) 79 rfl rfl) ?_
              refine VW.iload (pc' := 69) d_Model_passes_67 rfl rfl ?_
              refine VW.ild (pc' := 70) d_Model_passes_69 rfl (hM.k rfl) (by omega) (by omega) (by first | exact s1 | exact g279 | exact g280 | exact g256 | exact r3 | rfl) ?_
              refine VW.iast (pc' := 71) d_Model_passes_70 rfl (hM.k rfl) (by omega) (by omega) ?_
              refine VW.iinc (pc' := 74) d_Model_passes_71 rfl rfl rfl (by omega) ?_
              refine VW.goto (pc' := 223) d_Model_passes_74 rfl ?_
              refine VW.goto (pc' := 9) d_Model_passes_223 rfl ?_
              refine VW.pick [0, 1, 2, 3] ?_
              first | exact nx | exact nL e40 e87
  have bi : PI J I J (up2 I 283 0 first) q (blkF I (12 * (q + 1)) n first 0) [] [(n, first, 0)] := by
    refine ⟨fun o' q' h1 => up2_o _ _ _ _ h1, rfl, ⟨up2_eq _ _ _ _, trivial⟩, fun e he => ?_, ?_, fun e he => ?_, ?_⟩
    · rw [List.mem_singleton.1 he]; exact hOK
    · show [] ++ (_ ++ []) = _
      rw [List.append_nil]; rfl
    · refine hV e ?_
      have : pV I (12 * (q + 1)) [(n, first, 0)] = blkV I (12 * (q + 1)) n first 0 ++ [] := rfl
      rw [this, List.append_nil] at he
      exact he
    · have : pL I (12 * (q + 1)) [(n, first, 0)] = blkL I (12 * (q + 1)) n first 0 ++ [] := rfl
      rw [this, List.append_nil]; exact hl
  have l := loop (pV I (12 * (q + 1)) [(n, first, 0)]).length [(n, first, 0)] [] J _ (Nat.le_refl _) bi
  have l1 : VW m_Model_passes false (rmv 2 47) (exW K P (.inl none) (fun J' U => J' = (blkF I (12 * (q + 1)) n first 0).foldl (psF I q) J ∧ ∀ (o : Nat) (z : Int), o ≠ 283 → U o z = I o z)) K P J (up2 I 283 0 first) 0 0 9 [(0, vR (some 100)), (1, vI q), (2, vI first), (3, vI 1)] [] := l
  clear l loop hOK hV hl hF bi
  refine VW.aload_n (pc' := 1) d_Model_passes_0 rfl rfl ?_
  refine VW.gP (ci := 11) (T := T11) (N := 94) (k := 83) (k' := 83) (pc' := 4) d_Model_passes_1 rfl lk_Model_206 in11 rfl rfl rfl rfl (hM.k rfl) (hM.p (r := some 283) 83 rfl rfl) ?_
  refine VW.iconst (pc' := 5) d_Model_passes_4 rfl (by decide) ?_
  refine VW.iload_n (pc' := 6) d_Model_passes_5 rfl rfl ?_
  refine VW.iast (pc' := 7) d_Model_passes_6 rfl (hM.k rfl) (by omega) (by omega) ?_
  refine VW.iconst (pc' := 8) d_Model_passes_7 rfl (by decide) ?_
  refine VW.istore_n (pc' := 9) d_Model_passes_8 rfl rfl ?_
  refine VW.nrm ?_
  exact l1
end
