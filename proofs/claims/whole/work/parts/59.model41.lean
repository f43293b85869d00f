section
variable {K : KT} {P : PT} {J I : IT} {Q : PQ}
/-- ends with an int, of which and of the ints of the heap only this is known -/
def exV (K : KT) (P : PT) (J : IT) (φ : Int → IT → Prop) : PQ := fun r K' P' J' I' => K' = K ∧ P' = P ∧ J' = J ∧ ∃ v, r = .inl (some (vI v)) ∧ φ v I'
theorem exV_mk {φ : Int → IT → Prop} {v : Int} (h : φ v I) : exV K P J φ (.inl (some (vI v))) K P J I := ⟨rfl, rfl, rfl, v, rfl, h⟩
theorem FnR.mb {U : IT} {s y q : Int} {n w : Nat} {L : List (List Int)} (h : FnR I U s y q n w L) (hb : MB I) : MB U :=
  hb.of (h.2 100 0 (by decide) (by decide) (by decide) (by decide) (by omega)) (h.2 100 8 (by decide) (by decide) (by decide) (by decide) (by omega)) (h.2 100 19 (by decide) (by decide) (by decide) (by decide) (by omega)) (fun k => h.2 201 k (by decide) (by decide) (by decide) (by decide) (by omega)) (fun k => h.2 202 k (by decide) (by decide) (by decide) (by decide) (by omega)) (fun k => h.2 206 k (by decide) (by decide) (by decide) (by decide) (by omega)) (fun k => h.2 211 k (by decide) (by decide) (by decide) (by decide) (by omega)) (fun k => by rw [h.2 214 k (by decide) (by decide) (by decide) (by decide) (by omega)]; exact hb.row k) (fun k => h.2 223 k (by decide) (by decide) (by decide) (by decide) (by omega)) (fun k => by rw [h.2 236 k (by decide) (by decide) (by decide) (by decide) (by omega)]; exact hb.who k)
theorem FnR.g {U : IT} {s y q : Int} {n w : Nat} {L : List (List Int)} (h : FnR I U s y q n w L) (o : Nat) (z : Int) (h1 : o < 270) (h2 : o ≠ 100) : U o z = I o z := h.2 o z (by omega) (by omega) (by omega) (by omega) (fun y => h2 y.1)
theorem FnOK.b {s y q : Int} {n w : Nat} {L : List (List Int)} (h : FnOK I s y q n w L) : w ≤ 10 ∧ L.length ≤ 512 := by
  have := (h.2.2.1 n (Nat.le_refl _)).1
  rw [h.2.2.2] at this
  exact this.1
/-- what a run leaves that does not fail -/
noncomputable def runV (U : IT) (i q : Int) (n : Nat) : IT := mRa (up2 U 100 93 0) i (12 * (q + 1)) n n
noncomputable def runE (U : IT) (i q : Int) (n w : Nat) (L : List (List Int)) : IT := cpyI (up2 (up2 (runV U i q n) 100 77 L.length) 100 78 w) 270 0 276 0 ((L.length : Int) * (w : Int))
def RunP (I : IT) (i q : Int) (n w : Nat) (L : List (List Int)) (v : Int) (I' : IT) : Prop :=
  (¬ ((0 ≤ i ∧ i < I 100 19) ∧ (0 ≤ q ∧ q < I 100 61)) ∧ v = 0 ∧ I' = up2 I 100 93 1) ∨
  (((0 ≤ i ∧ i < I 100 19) ∧ (0 ≤ q ∧ q < I 100 61)) ∧ I 221 i ≠ 0 ∧ v = 0 ∧ I' = up2 I 100 93 2) ∨
  (((0 ≤ i ∧ i < I 100 19) ∧ (0 ≤ q ∧ q < I 100 61)) ∧ I 221 i = 0 ∧ ∃ U, FnR I U (I 223 i) (I 220 i) q n w L ∧
    ((evF I (I 223 i) (I 220 i) (12 * (q + 1)) n ∧ v = 0 ∧ I' = up2 U 100 93 3) ∨ (¬ evF I (I 223 i) (I 220 i) (12 * (q + 1)) n ∧ v = L.length ∧ I' = runE U i q n w L)))
theorem sp_Model_run {i q : Int} {n w : Nat} {L : List (List Int)} (hM : MW K P) (hb : MB I) (hq : 0 ≤ I 100 61 ∧ I 100 61 ≤ 20) (hf : (0 ≤ i ∧ i < I 100 19) → (0 ≤ q ∧ q < I 100 61) → I 221 i = 0 → FnOK I (I 223 i) (I 220 i) q n w L) (hr : 0 ≤ I 233 i ∧ I 233 i ≤ 2030) : Sp m_Model_run false (rmv 4 99) (exV K P J (RunP I i q n w L)) K P J I [vR (some 100), vI i, vI q] := by
  refine Sp.ofV (by decide) (Or.inr rfl) rfl ?_
  have b0 := hb.trn
  have p0 := hb.pla i
  have tail : ∀ (U : IT), (0 ≤ i ∧ i < I 100 19) → (0 ≤ q ∧ q < I 100 61) → I 221 i = 0 → FnR I U (I 223 i) (I 220 i) q n w L → ¬ evF I (I 223 i) (I 220 i) (12 * (q + 1)) n → VW m_Model_run false (rmv 4 99) (exV K P J (RunP I i q n w L)) K P J (up2 U 100 93 0) 0 0 102 [(0, vR (some 100)), (1, vI i), (2, vI q), (3, vI 1), (4, vI 1)] [] := by
    intro U hi hq1 hs hU hF
    have hk := hf hi hq1 hs
    have lb := hk.b
    have hlw : (L.length : Int) * (w : Int) ≤ 512 * 10 := mulUp (by omega) (by omega) (by omega) (by omega)
    have hlw0 := mulNN (w := (L.length : Int)) (k := (w : Int)) (by omega) (by omega)
    have hbU := hU.mb hb
    have g : ∀ o z, o < 270 → o ≠ 100 → up2 U 100 93 0 o z = I o z := fun o z h1 h2 => (up2_o _ _ _ _ h2).trans (hU.g o z h1 h2)
    have ra := sp_Model_readsAll (K := K) (P := P) (J := J) (I := up2 U 100 93 0) (i := i) (q := q) (n := n) hM (hbU.u (by decide) (by decide)) (by omega) (by omega) (by rw [g 262 q (by decide) (by decide)]; exact hk.1.1) hk.1.2 (fun j hj h0 => by
      rw [g 256 _ (by decide) (by decide)] at h0
      rw [g 257 _ (by decide) (by decide)]
      exact ((hk.2.1 j hj).1 h0).1) (by rw [g 233 i (by decide) (by decide)]; exact hr)
    have v273 : runV U i q n 273 0 = L.length := (mRa_fr n 273 0 (by decide)).trans ((up2_o _ _ _ _ (by decide)).trans hU.1.1)
    have v274 : runV U i q n 274 0 = w := (mRa_fr n 274 0 (by decide)).trans ((up2_o _ _ _ _ (by decide)).trans hU.1.2.1)
    have v274b : up2 (runV U i q n) 100 77 (L.length : Int) 274 0 = w := (up2_o _ _ _ _ (by decide)).trans v274
    have fin : RunP I i q n w L L.length (runE U i q n w L) := Or.inr (Or.inr ⟨⟨hi, hq1⟩, hs, U, hU, Or.inr ⟨hF, rfl, rfl⟩⟩)
    have ra2 : Sp m_Model_readsAll false (rmv 2 49) (ex K P J (runV U i q n) (.inl none)) K P J (up2 U 100 93 0) [vR (some 100), vI i, vI q] := ra
    have loop : ∀ (l : Nat) (c : Int), c + l = (L.length : Int) * (w : Int) → 0 ≤ c → VW m_Model_run false (rmv 4 99) (exV K P J (RunP I i q n w L)) K P J (cpyI (up2 (up2 (runV U i q n) 100 77 L.length) 100 78 w) 270 0 276 0 c) 0 0 131 [(0, vR (some 100)), (1, vI i), (2, vI q), (3, vI 1), (4, vI 1), (5, vI c)] [] := by
      clear ra ra2 hf v273 v274 v274b g hbU hF hU hk
      intro l
      have w77 : ∀ c, cpyI (up2 (up2 (runV U i q n) 100 77 L.length) 100 78 w) 270 0 276 0 c 100 77 = L.length := fun c => (cpyI_out (Or.inl (by decide))).trans ((up2_k _ _ _ _ (by decide)).trans (up2_eq _ _ _ _))
      have w78 : ∀ c, cpyI (up2 (up2 (runV U i q n) 100 77 L.length) 100 78 w) 270 0 276 0 c 100 78 = w := fun c => (cpyI_out (Or.inl (by decide))).trans (up2_eq _ _ _ _)
      induction l with
      | zero =>
        intro c hc h0
        have ec : c = (L.length : Int) * (w : Int) := by omega
        subst ec
        refine VW.iload (pc' := 133) d_Model_run_131 rfl rfl ?_
        refine VW.aload_n (pc' := 134) d_Model_run_133 rfl rfl ?_
        refine VW.gI (ci := 11) (T := T11) (N := 94) (k := 77) (k' := 77) (pc' := 137) d_Model_run_134 rfl lk_Model_495 in11 rfl rfl rfl rfl (hM.k rfl) (by first | exact w77 _ | exact w78 _ | rfl) ?_
        refine VW.aload_n (pc' := 138) d_Model_run_137 rfl rfl ?_
        refine VW.gI (ci := 11) (T := T11) (N := 94) (k := 78) (k' := 78) (pc' := 141) d_Model_run_138 rfl lk_Model_498 in11 rfl rfl rfl rfl (hM.k rfl) (by first | exact w77 _ | exact w78 _ | rfl) ?_
        refine VW.imul (pc' := 142) d_Model_run_141 rfl (by omega) ?_
        refine VW.icmp_ge (tgt := 165) (pc' := 145) d_Model_run_142 rfl rfl (fun c142 => ?_) (fun c142 => ?_)
        · refine VW.aload_n (pc' := 166) d_Model_run_165 rfl rfl ?_
          refine VW.gI (ci := 11) (T := T11) (N := 94) (k := 77) (k' := 77) (pc' := 169) d_Model_run_166 rfl lk_Model_495 in11 rfl rfl rfl rfl (hM.k rfl) (by first | exact w77 _ | exact w78 _ | rfl) ?_
          exact VW.iret d_Model_run_169 rfl rfl (Nat.zero_le _) (Nat.zero_le _) (exV_mk fin)
        · exfalso; omega
      | succ l ih =>
        intro c hc h0
        have nx := ih (c + 1) (by omega) (by omega)
        rw [← cpyI_stepG (I := up2 (up2 (runV U i q n) 100 77 L.length) 100 78 w) (s := 270) (a := 276) h0 (cpyI_out (Or.inl (by decide))), Int.zero_add] at nx
        clear ih fin
        refine VW.iload (pc' := 133) d_Model_run_131 rfl rfl ?_
        refine VW.aload_n (pc' := 134) d_Model_run_133 rfl rfl ?_
        refine VW.gI (ci := 11) (T := T11) (N := 94) (k := 77) (k' := 77) (pc' := 137) d_Model_run_134 rfl lk_Model_495 in11 rfl rfl rfl rfl (hM.k rfl) (by first | exact w77 _ | exact w78 _ | exact cpyI_out (Or.inl (by decide)) | rfl) ?_
        refine VW.aload_n (pc' := 138) d_Model_run_137 rfl rfl ?_
        refine VW.gI (ci := 11) (T := T11) (N := 94) (k := 78) (k' := 78) (pc' := 141) d_Model_run_138 rfl lk_Model_498 in11 rfl rfl rfl rfl (hM.k rfl) (by first | exact w77 _ | exact w78 _ | exact cpyI_out (Or.inl (by decide)) | rfl) ?_
        refine VW.imul (pc' := 142) d_Model_run_141 rfl (by omega) ?_
        refine VW.icmp_ge (tgt := 165) (pc' := 145) d_Model_run_142 rfl rfl (fun c142 => ?_) (fun c142 => ?_)
        · exfalso; omega
        · refine VW.aload_n (pc' := 146) d_Model_run_145 rfl rfl ?_
          refine VW.gP (ci := 11) (T := T11) (N := 94) (k := 76) (k' := 76) (pc' := 149) d_Model_run_146 rfl lk_Model_191 in11 rfl rfl rfl rfl (hM.k rfl) (hM.p (r := some 276) 76 rfl rfl) ?_
          refine VW.iload (pc' := 151) d_Model_run_149 rfl rfl ?_
          refine VW.aload_n (pc' := 152) d_Model_run_151 rfl rfl ?_
          refine VW.gP (ci := 11) (T := T11) (N := 94) (k := 70) (k' := 70) (pc' := 155) d_Model_run_152 rfl lk_Model_178 in11 rfl rfl rfl rfl (hM.k rfl) (hM.p (r := some 270) 70 rfl rfl) ?_
          refine VW.iload (pc' := 157) d_Model_run_155 rfl rfl ?_
          refine VW.ild (pc' := 158) d_Model_run_157 rfl (hM.k rfl) (by omega) (by omega) (by first | exact w77 _ | exact w78 _ | exact cpyI_out (Or.inl (by decide)) | rfl) ?_
          refine VW.iast (pc' := 159) d_Model_run_158 rfl (hM.k rfl) (by omega) (by omega) ?_
          refine VW.iinc (pc' := 162) d_Model_run_159 rfl rfl rfl (by omega) ?_
          refine VW.goto (pc' := 131) d_Model_run_162 rfl ?_
          refine VW.nrm ?_
          exact nx
    have l := loop ((L.length : Int) * (w : Int)).toNat 0 (by omega) (by omega)
    rw [cpyI_0] at l
    clear loop ra hf g hbU hF hU hk fin
    refine VW.aload_n (pc' := 103) d_Model_run_102 rfl rfl ?_
    refine VW.iload_n (pc' := 104) d_Model_run_103 rfl rfl ?_
    refine VW.iload_n (pc' := 105) d_Model_run_104 rfl rfl ?_
    refine VW.cV (ci := 11) (T := T11) (N := 94) (pc' := 108) d_Model_run_105 rfl mv_Model_readsAll lk_Model_492 rfl (hM.k rfl) rfl rfl rfl (Nat.le_refl _) (Nat.le_refl _) (ra2) rfl rfl ?_
    refine VW.aload_n (pc' := 109) d_Model_run_108 rfl rfl ?_
    refine VW.aload_n (pc' := 110) d_Model_run_109 rfl rfl ?_
    refine VW.gP (ci := 11) (T := T11) (N := 94) (k := 73) (k' := 73) (pc' := 113) d_Model_run_110 rfl lk_Model_184 in11 rfl rfl rfl rfl (hM.k rfl) (hM.p (r := some 273) 73 rfl rfl) ?_
    refine VW.iconst (pc' := 114) d_Model_run_113 rfl (by decide) ?_
    refine VW.ild (pc' := 115) d_Model_run_114 rfl (hM.k rfl) (by omega) (by omega) (by first | exact v273 | exact v274 | exact v274b | rfl) ?_
    refine VW.pI (ci := 11) (T := T11) (N := 94) (k := 77) (k' := 77) (ty := ty11) (pc' := 118) d_Model_run_115 rfl lk_Model_495 in11 tk11 nm11 rfl rfl rfl rfl rfl rfl (hM.k rfl) ?_
    refine VW.aload_n (pc' := 119) d_Model_run_118 rfl rfl ?_
    refine VW.aload_n (pc' := 120) d_Model_run_119 rfl rfl ?_
    refine VW.gP (ci := 11) (T := T11) (N := 94) (k := 74) (k' := 74) (pc' := 123) d_Model_run_120 rfl lk_Model_187 in11 rfl rfl rfl rfl (hM.k rfl) (hM.p (r := some 274) 74 rfl rfl) ?_
    refine VW.iconst (pc' := 124) d_Model_run_123 rfl (by decide) ?_
    refine VW.ild (pc' := 125) d_Model_run_124 rfl (hM.k rfl) (by omega) (by omega) (by first | exact v273 | exact v274 | exact v274b | rfl) ?_
    refine VW.pI (ci := 11) (T := T11) (N := 94) (k := 78) (k' := 78) (ty := ty11) (pc' := 128) d_Model_run_125 rfl lk_Model_498 in11 tk11 nm11 rfl rfl rfl rfl rfl rfl (hM.k rfl) ?_
    refine VW.iconst (pc' := 129) d_Model_run_128 rfl (by decide) ?_
    refine VW.istore (pc' := 131) d_Model_run_129 rfl rfl ?_
    refine VW.nrm ?_
    exact l
  have fd : (0 ≤ i ∧ i < I 100 19) → (0 ≤ q ∧ q < I 100 61) → I 221 i = 0 → Sp m_Model_finds false (rmv 3 75) (exU K P J (.inl none) (fun U => FnR I U (I 223 i) (I 220 i) q n w L)) K P J I [vR (some 100), vI q, vI (I 223 i), vI (I 220 i)] := fun h1 h2 h3 => sp_Model_finds hM hb (by omega) (by omega) (hf h1 h2 h3)
  have r1 : ¬ ((0 ≤ i ∧ i < I 100 19) ∧ (0 ≤ q ∧ q < I 100 61)) → RunP I i q n w L 0 (up2 I 100 93 1) := fun z => Or.inl ⟨z, rfl, rfl⟩
  have r2 : (0 ≤ i ∧ i < I 100 19) → (0 ≤ q ∧ q < I 100 61) → I 221 i ≠ 0 → RunP I i q n w L 0 (up2 I 100 93 2) := fun z1 z2 z3 => Or.inr (Or.inl ⟨⟨z1, z2⟩, z3, rfl, rfl⟩)
  have r3 : ∀ U, (0 ≤ i ∧ i < I 100 19) → (0 ≤ q ∧ q < I 100 61) → I 221 i = 0 → FnR I U (I 223 i) (I 220 i) q n w L → evF I (I 223 i) (I 220 i) (12 * (q + 1)) n → RunP I i q n w L 0 (up2 U 100 93 3) := fun U z1 z2 z3 z4 z5 => Or.inr (Or.inr ⟨⟨z1, z2⟩, z3, U, z4, Or.inl ⟨z5, rfl, rfl⟩⟩)
  clear hf
  refine VW.aload_n (pc' := 1) d_Model_run_0 rfl rfl ?_
  refine VW.iload_n (pc' := 2) d_Model_run_1 rfl rfl ?_
  refine VW.cV (ci := 11) (T := T11) (N := 94) (pc' := 5) d_Model_run_2 rfl mv_Model_isTransaction lk_Model_376 rfl (hM.k rfl) rfl rfl rfl (Nat.le_refl _) (Nat.le_refl _) (sp_Model_isTransaction hM hb.trn.1) rfl rfl ?_
  refine VW.if_eq (tgt := 20) (pc' := 8) d_Model_run_5 rfl rfl (fun c5 => ?_) (fun c5 => ?_)
  · try have e5 := bIe c5
    refine VW.iconst (pc' := 21) d_Model_run_20 rfl (by decide) ?_
    refine VW.istore_n (pc' := 22) d_Model_run_21 rfl rfl ?_
    refine VW.iload_n (pc' := 23) d_Model_run_22 rfl rfl ?_
    refine VW.if_eq (tgt := 39) (pc' := 26) d_Model_run_23 rfl rfl (fun _ => ?_) (fun c23 => absurd c23 (by decide))
    refine VW.iconst (pc' := 40) d_Model_run_39 rfl (by decide) ?_
    refine VW.istore (pc' := 42) d_Model_run_40 rfl rfl ?_
    refine VW.iload (pc' := 44) d_Model_run_42 rfl rfl ?_
    refine VW.if_eq (tgt := 64) (pc' := 47) d_Model_run_44 rfl rfl (fun _ => ?_) (fun c44 => absurd c44 (by decide))
    refine VW.aload_n (pc' := 65) d_Model_run_64 rfl rfl ?_
    refine VW.iload_n (pc' := 66) d_Model_run_65 rfl rfl ?_
    refine VW.if_ne (tgt := 73) (pc' := 69) d_Model_run_66 rfl rfl (fun c66 => absurd c66 (by decide)) (fun _ => ?_)
    refine VW.iconst (pc' := 70) d_Model_run_69 rfl (by decide) ?_
    refine VW.goto (pc' := 94) d_Model_run_70 rfl ?_
    refine VW.cV (ci := 11) (T := T11) (N := 94) (pc' := 97) d_Model_run_94 rfl mv_Model_fails lk_Model_254 rfl (hM.k rfl) rfl rfl rfl (Nat.le_refl _) (Nat.le_refl _) (sp_Model_fails hM) rfl rfl ?_
    refine VW.if_eq (tgt := 102) (pc' := 100) d_Model_run_97 rfl rfl (fun c97 => ?_) (fun c97 => ?_)
    · try have e97 := bIe c97
      refine VW.nrm ?_
      first | (exfalso; omega) | exact tail U e5 e13 c32 hU e86
    · try have e97 := bIn c97
      refine VW.iconst (pc' := 101) d_Model_run_100 rfl (by decide) ?_
      exact VW.iret d_Model_run_101 rfl rfl (Nat.zero_le _) (Nat.zero_le _) (by first | (exfalso; omega) | exact exV_mk (r1 (fun z => e5 z.1)) | exact exV_mk (r1 (fun z => e13 z.2)) | exact exV_mk (r2 e5 e13 c32) | exact exV_mk (r3 U e5 e13 c32 hU e86))
  · try have e5 := bIn c5
    refine VW.aload_n (pc' := 9) d_Model_run_8 rfl rfl ?_
    refine VW.iload_n (pc' := 10) d_Model_run_9 rfl rfl ?_
    refine VW.cV (ci := 11) (T := T11) (N := 94) (pc' := 13) d_Model_run_10 rfl mv_Model_isQuery lk_Model_486 rfl (hM.k rfl) rfl rfl rfl (Nat.le_refl _) (Nat.le_refl _) (sp_Model_isQuery hM hq.1) rfl rfl ?_
    refine VW.if_eq (tgt := 20) (pc' := 16) d_Model_run_13 rfl rfl (fun c13 => ?_) (fun c13 => ?_)
    · try have e13 := bIe c13
      refine VW.iconst (pc' := 21) d_Model_run_20 rfl (by decide) ?_
      refine VW.istore_n (pc' := 22) d_Model_run_21 rfl rfl ?_
      refine VW.iload_n (pc' := 23) d_Model_run_22 rfl rfl ?_
      refine VW.if_eq (tgt := 39) (pc' := 26) d_Model_run_23 rfl rfl (fun _ => ?_) (fun c23 => absurd c23 (by decide))
      refine VW.iconst (pc' := 40) d_Model_run_39 rfl (by decide) ?_
      refine VW.istore (pc' := 42) d_Model_run_40 rfl rfl ?_
      refine VW.iload (pc' := 44) d_Model_run_42 rfl rfl ?_
      refine VW.if_eq (tgt := 64) (pc' := 47) d_Model_run_44 rfl rfl (fun _ => ?_) (fun c44 => absurd c44 (by decide))
      refine VW.aload_n (pc' := 65) d_Model_run_64 rfl rfl ?_
      refine VW.iload_n (pc' := 66) d_Model_run_65 rfl rfl ?_
      refine VW.if_ne (tgt := 73) (pc' := 69) d_Model_run_66 rfl rfl (fun c66 => absurd c66 (by decide)) (fun _ => ?_)
      refine VW.iconst (pc' := 70) d_Model_run_69 rfl (by decide) ?_
      refine VW.goto (pc' := 94) d_Model_run_70 rfl ?_
      refine VW.cV (ci := 11) (T := T11) (N := 94) (pc' := 97) d_Model_run_94 rfl mv_Model_fails lk_Model_254 rfl (hM.k rfl) rfl rfl rfl (Nat.le_refl _) (Nat.le_refl _) (sp_Model_fails hM) rfl rfl ?_
      refine VW.if_eq (tgt := 102) (pc' := 100) d_Model_run_97 rfl rfl (fun c97 => ?_) (fun c97 => ?_)
      · try have e97 := bIe c97
        refine VW.nrm ?_
        first | (exfalso; omega) | exact tail U e5 e13 c32 hU e86
      · try have e97 := bIn c97
        refine VW.iconst (pc' := 101) d_Model_run_100 rfl (by decide) ?_
        exact VW.iret d_Model_run_101 rfl rfl (Nat.zero_le _) (Nat.zero_le _) (by first | (exfalso; omega) | exact exV_mk (r1 (fun z => e5 z.1)) | exact exV_mk (r1 (fun z => e13 z.2)) | exact exV_mk (r2 e5 e13 c32) | exact exV_mk (r3 U e5 e13 c32 hU e86))
    · try have e13 := bIn c13
      refine VW.iconst (pc' := 17) d_Model_run_16 rfl (by decide) ?_
      refine VW.goto (pc' := 21) d_Model_run_17 rfl ?_
      refine VW.istore_n (pc' := 22) d_Model_run_21 rfl rfl ?_
      refine VW.iload_n (pc' := 23) d_Model_run_22 rfl rfl ?_
      refine VW.if_eq (tgt := 39) (pc' := 26) d_Model_run_23 rfl rfl (fun c23 => absurd c23 (by decide)) (fun _ => ?_)
      have x5 := bIn c5
      refine VW.aload_n (pc' := 27) d_Model_run_26 rfl rfl ?_
      refine VW.gP (ci := 11) (T := T11) (N := 94) (k := 21) (k' := 21) (pc' := 30) d_Model_run_27 rfl lk_Model_61 in11 rfl rfl rfl rfl (hM.k rfl) (hM.p (r := some 221) 21 rfl rfl) ?_
      refine VW.iload_n (pc' := 31) d_Model_run_30 rfl rfl ?_
      refine VW.ild (pc' := 32) d_Model_run_31 rfl (hM.k rfl) (by omega) (by omega) (by first | exact hU.1.2.2.2.2 | rfl) ?_
      refine VW.if_ne (tgt := 39) (pc' := 35) d_Model_run_32 rfl rfl (fun c32 => ?_) (fun c32 => ?_)
      · try have e32 := bIn c32
        refine VW.iconst (pc' := 40) d_Model_run_39 rfl (by decide) ?_
        refine VW.istore (pc' := 42) d_Model_run_40 rfl rfl ?_
        refine VW.iload (pc' := 44) d_Model_run_42 rfl rfl ?_
        refine VW.if_eq (tgt := 64) (pc' := 47) d_Model_run_44 rfl rfl (fun _ => ?_) (fun c44 => absurd c44 (by decide))
        refine VW.aload_n (pc' := 65) d_Model_run_64 rfl rfl ?_
        refine VW.iload_n (pc' := 66) d_Model_run_65 rfl rfl ?_
        refine VW.if_ne (tgt := 73) (pc' := 69) d_Model_run_66 rfl rfl (fun _ => ?_) (fun c66 => absurd c66 (by decide))
        refine VW.iload (pc' := 75) d_Model_run_73 rfl rfl ?_
        refine VW.if_ne (tgt := 82) (pc' := 78) d_Model_run_75 rfl rfl (fun c75 => absurd c75 (by decide)) (fun _ => ?_)
        refine VW.iconst (pc' := 79) d_Model_run_78 rfl (by decide) ?_
        refine VW.goto (pc' := 94) d_Model_run_79 rfl ?_
        refine VW.cV (ci := 11) (T := T11) (N := 94) (pc' := 97) d_Model_run_94 rfl mv_Model_fails lk_Model_254 rfl (hM.k rfl) rfl rfl rfl (Nat.le_refl _) (Nat.le_refl _) (sp_Model_fails hM) rfl rfl ?_
        refine VW.if_eq (tgt := 102) (pc' := 100) d_Model_run_97 rfl rfl (fun c97 => ?_) (fun c97 => ?_)
        · try have e97 := bIe c97
          refine VW.nrm ?_
          first | (exfalso; omega) | exact tail U e5 e13 c32 hU e86
        · try have e97 := bIn c97
          refine VW.iconst (pc' := 101) d_Model_run_100 rfl (by decide) ?_
          exact VW.iret d_Model_run_101 rfl rfl (Nat.zero_le _) (Nat.zero_le _) (by first | (exfalso; omega) | exact exV_mk (r1 (fun z => e5 z.1)) | exact exV_mk (r1 (fun z => e13 z.2)) | exact exV_mk (r2 e5 e13 c32) | exact exV_mk (r3 U e5 e13 c32 hU e86))
      · try have e32 := bIe c32
        refine VW.iconst (pc' := 36) d_Model_run_35 rfl (by decide) ?_
        refine VW.goto (pc' := 40) d_Model_run_36 rfl ?_
        refine VW.istore (pc' := 42) d_Model_run_40 rfl rfl ?_
        refine VW.iload (pc' := 44) d_Model_run_42 rfl rfl ?_
        refine VW.if_eq (tgt := 64) (pc' := 47) d_Model_run_44 rfl rfl (fun c44 => absurd c44 (by decide)) (fun _ => ?_)
        refine VW.aload_n (pc' := 48) d_Model_run_47 rfl rfl ?_
        refine VW.iload_n (pc' := 49) d_Model_run_48 rfl rfl ?_
        refine VW.aload_n (pc' := 50) d_Model_run_49 rfl rfl ?_
        refine VW.gP (ci := 11) (T := T11) (N := 94) (k := 23) (k' := 23) (pc' := 53) d_Model_run_50 rfl lk_Model_67 in11 rfl rfl rfl rfl (hM.k rfl) (hM.p (r := some 223) 23 rfl rfl) ?_
        refine VW.iload_n (pc' := 54) d_Model_run_53 rfl rfl ?_
        refine VW.ild (pc' := 55) d_Model_run_54 rfl (hM.k rfl) (by omega) (by omega) (by first | exact hU.1.2.2.2.2 | rfl) ?_
        refine VW.aload_n (pc' := 56) d_Model_run_55 rfl rfl ?_
        refine VW.gP (ci := 11) (T := T11) (N := 94) (k := 20) (k' := 20) (pc' := 59) d_Model_run_56 rfl lk_Model_58 in11 rfl rfl rfl rfl (hM.k rfl) (hM.p (r := some 220) 20 rfl rfl) ?_
        refine VW.iload_n (pc' := 60) d_Model_run_59 rfl rfl ?_
        refine VW.ild (pc' := 61) d_Model_run_60 rfl (hM.k rfl) (by omega) (by omega) (by first | exact hU.1.2.2.2.2 | rfl) ?_
        refine VW.cVu (ci := 11) (T := T11) (N := 94) (pc' := 64) d_Model_run_61 rfl mv_Model_finds lk_Model_489 rfl (hM.k rfl) rfl rfl rfl (Nat.le_refl _) (Nat.le_refl _) (fd e5 e13 c32) rfl rfl (fun U hU => ?_)
        refine VW.aload_n (pc' := 65) d_Model_run_64 rfl rfl ?_
        refine VW.iload_n (pc' := 66) d_Model_run_65 rfl rfl ?_
        refine VW.if_ne (tgt := 73) (pc' := 69) d_Model_run_66 rfl rfl (fun _ => ?_) (fun c66 => absurd c66 (by decide))
        refine VW.iload (pc' := 75) d_Model_run_73 rfl rfl ?_
        refine VW.if_ne (tgt := 82) (pc' := 78) d_Model_run_75 rfl rfl (fun _ => ?_) (fun c75 => absurd c75 (by decide))
        refine VW.aload_n (pc' := 83) d_Model_run_82 rfl rfl ?_
        refine VW.gI (ci := 11) (T := T11) (N := 94) (k := 75) (k' := 75) (pc' := 86) d_Model_run_83 rfl lk_Model_440 in11 rfl rfl rfl rfl (hM.k rfl) (by first | exact hU.1.2.2.2.2 | rfl) ?_
        refine VW.if_eq (tgt := 93) (pc' := 89) d_Model_run_86 rfl rfl (fun c86 => ?_) (fun c86 => ?_)
        · try have e86 := bIe c86
          refine VW.iconst (pc' := 94) d_Model_run_93 rfl (by decide) ?_
          refine VW.cV (ci := 11) (T := T11) (N := 94) (pc' := 97) d_Model_run_94 rfl mv_Model_fails lk_Model_254 rfl (hM.k rfl) rfl rfl rfl (Nat.le_refl _) (Nat.le_refl _) (sp_Model_fails hM) rfl rfl ?_
          refine VW.if_eq (tgt := 102) (pc' := 100) d_Model_run_97 rfl rfl (fun c97 => ?_) (fun c97 => ?_)
          · try have e97 := bIe c97
            refine VW.nrm ?_
            first | (exfalso; omega) | exact tail U e5 e13 c32 hU e86
          · try have e97 := bIn c97
            refine VW.iconst (pc' := 101) d_Model_run_100 rfl (by decide) ?_
            exact VW.iret d_Model_run_101 rfl rfl (Nat.zero_le _) (Nat.zero_le _) (by first | (exfalso; omega) | exact exV_mk (r1 (fun z => e5 z.1)) | exact exV_mk (r1 (fun z => e13 z.2)) | exact exV_mk (r2 e5 e13 c32) | exact exV_mk (r3 U e5 e13 c32 hU e86))
        · try have e86 := bIn c86
          refine VW.iconst (pc' := 90) d_Model_run_89 rfl (by decide) ?_
          refine VW.goto (pc' := 94) d_Model_run_90 rfl ?_
          refine VW.cV (ci := 11) (T := T11) (N := 94) (pc' := 97) d_Model_run_94 rfl mv_Model_fails lk_Model_254 rfl (hM.k rfl) rfl rfl rfl (Nat.le_refl _) (Nat.le_refl _) (sp_Model_fails hM) rfl rfl ?_
          refine VW.if_eq (tgt := 102) (pc' := 100) d_Model_run_97 rfl rfl (fun c97 => ?_) (fun c97 => ?_)
          · try have e97 := bIe c97
            refine VW.nrm ?_
            first | (exfalso; omega) | exact tail U e5 e13 c32 hU e86
          · try have e97 := bIn c97
            refine VW.iconst (pc' := 101) d_Model_run_100 rfl (by decide) ?_
            exact VW.iret d_Model_run_101 rfl rfl (Nat.zero_le _) (Nat.zero_le _) (by first | (exfalso; omega) | exact exV_mk (r1 (fun z => e5 z.1)) | exact exV_mk (r1 (fun z => e13 z.2)) | exact exV_mk (r2 e5 e13 c32) | exact exV_mk (r3 U e5 e13 c32 hU e86))
end
