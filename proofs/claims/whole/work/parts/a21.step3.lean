section
variable {K : KT} {P : PT} {J I : IT}
theorem st_one {v sk s od sp mm wi ck dt tg ru vv r a qn : Nat} {e : Nat → Nat} {Wn : Nat → Prop} {st : STK} {x y op A B C nt W : Int} (hw : SpW K P I v sk s od sp mm wi ck dt tg ru vv r a qn e Wn) (hx : 0 ≤ x ∧ x < 12) (eO : I (qn + 3) x = op) (eA : I (qn + 4) (x * 4 + 0) = A) (eB : I (qn + 4) (x * 4 + 1) = B) (eC : I (qn + 4) (x * 4 + 2) = C) (eN : I (qn + 4) (x * 4 + 3) = nt) (eW : I (qn + 5) x = W) (hB : stB st) (hk : StkC I e st) (h5 : I v 5 = st.length) (hl : st.length ≤ 3) (h6 : I v 6 = 0 ∨ I v 6 = 1) (hok : okC op A B C W st) (hsc : op = 0 → W = I wi A ∧ 0 ≤ W ∧ W ≤ 4) (h0 : op = 1 ∨ op = 2 ∨ op = 3 ∨ op = 5 ∨ op = 6) : Sp m_Evaluator_step false (rmv 6 240) (fun r' K' P' J' I' => r' = .inl none ∧ K' = K ∧ J' = J ∧ StR K P J I v sk mm e Wn (ev1 (scC I s wi vv a y) op A B C nt st) (ev1F op A B st) P' I' : PQ) K P J I [vR (some v), vR (some qn), vI x, vR (some r), vI y] := by
  obtain ⟨z, rest, hst, hch, hWd⟩ := hok.2.1 h0
  subst hst
  have h5 : I v 5 = (((rest.length + 1) : Nat) : Int) := h5
  have hl : (rest.length + 1) ≤ 3 := hl
  refine Sp.ofV (by decide) (Or.inr rfl) rfl ?_
  obtain ⟨⟨hS, hW, hWn⟩, ⟨v0, ⟨v2, v2k⟩, ⟨v3, v3k⟩, v4, v4k⟩, hG, hRw, hQ, hc, hd⟩ := id hw
  obtain ⟨s1, s2, s3, s4, s5⟩ := id hS
  have sd := s4 (rest.length + 1) (by omega)
  have ne1 : ∀ i : Nat, i < 4 → e i ≠ v := fun i hi z => by have := (s4 i hi).2.1.symm.trans (z ▸ s1); cases this
  have ne2 : ∀ i : Nat, i < 4 → e i + 1 ≠ v := fun i hi z => by have := (s4 i hi).2.2.2.symm.trans (z ▸ s1); cases this
  have ne3 : ∀ i j : Nat, i < 4 → j < 4 → e i + 1 ≠ e j := fun i j hi hj z => by have := (s4 i hi).2.2.2.symm.trans (z ▸ (s4 j hj).2.1); cases this
  have arr : ∀ {q m : Nat}, K q = some (100, m) → q ≠ e (rest.length + 1) := fun h z => by have := h.symm.trans (z ▸ sd.2.1); cases this
  have nS : s ≠ e (rest.length + 1) := fun z => by have := hG.1.symm.trans (z ▸ sd.2.1); cases this
  -- behind the reset
  have i1 : ∀ {q : Nat}, q ≠ e (rest.length + 1) → up2 (up2 I (e (rest.length + 1)) 1 0) (e (rest.length + 1)) 2 W q = I q := fun h => funext (fun z => (up2_o _ _ _ _ h).trans (up2_o _ _ _ _ h))
  generalize hI1 : up2 (up2 I (e (rest.length + 1)) 1 0) (e (rest.length + 1)) 2 W = I1 at i1
  have r0 : ∀ w : Nat, W = w → RelR I1 (e (rest.length + 1)) (e (rest.length + 1) + 1) w [] := fun w h => by
    rw [← hI1]
    exact ⟨(up2_eq _ _ _ _).trans h, (up2_k _ _ _ _ (by decide)).trans (up2_eq _ _ _ _), rfl⟩
  have iv : I1 v = I v := i1 (ne1 _ (by omega)).symm
  have f5 : I1 v 5 = (rest.length + 1) := by rw [iv]; exact h5
  have fr1 : ∀ q, q ≠ v → q ≠ mm → ¬ Wn q → I1 q = I q := fun q _ _ q3 => i1 (fun z => q3 (z ▸ (hW _ (by omega)).1))
  have keep : ∀ (i : Nat) (w : Nat) (M : List (List Int)), i < (rest.length + 1) → RelR I (e i) (e i + 1) w M → RelR I1 (e i) (e i + 1) w M := fun i w M hi h => h.of (i1 (s5 i _ (by omega) (by omega) (by omega))) (i1 (arr (s4 i (by omega)).2.2.2))
  have keepS : ∀ rs : STK, rs.length < (rest.length + 1) + 1 → StkC I e rs → StkC I1 e rs := fun rs hr h => StkC.of rs h (fun i hi => ⟨rfl, i1 (s5 i _ (by omega) (by omega) (by omega)), i1 (arr (s4 i (by omega)).2.2.2)⟩)
  have eO1 : I1 (qn + 3) x = op := by rw [i1 (arr hQ.k2)]; exact eO
  have eA1 : I1 (qn + 4) (x * 4 + 0) = A := by rw [i1 (arr hQ.k3)]; exact eA
  have eB1 : I1 (qn + 4) (x * 4 + 1) = B := by rw [i1 (arr hQ.k3)]; exact eB
  have eC1 : I1 (qn + 4) (x * 4 + 2) = C := by rw [i1 (arr hQ.k3)]; exact eC
  have eN1 : I1 (qn + 4) (x * 4 + 3) = nt := by rw [i1 (arr hQ.k3)]; exact eN
  have si := s4 rest.length (by omega)
  have hA : ReA K P (e (rest.length + 1)) (e (rest.length + 1) + 1) (e rest.length) (e rest.length + 1) := ⟨sd.2, si.2, s5 _ _ (by omega) (by omega) (by omega), fun q => s5 _ _ (by omega) (by omega) (by omega) (Nat.succ.inj q)⟩
  have hR := keep rest.length z.1 z.2 (by omega) hk.1
  have h6' : I1 v 6 = 0 ∨ I1 v 6 = 1 := by rw [iv]; exact h6
  have pt : P sk (((rest.length + 1 : Nat) : Int) - 1) = some (e rest.length) := by rw [show ((rest.length + 1 : Nat) : Int) - 1 = rest.length by omega]; exact si.1
  have fin := fun (T : IT) (hT : ChR I1 T v (e (rest.length + 1)) (e (rest.length + 1) + 1) (chL op A B C nt z.1 z.2).1 (chL op A B C nt z.1 z.2).2 (∃ r ∈ z.2, stayF op A B r)) => by
    obtain ⟨t1, t2, t3, t4⟩ := hT
    exact st_tail (J := J) (I := I) (T := T) (v := v) (sk := sk) (mm := mm) (d := rest.length + 1) (o := 1) (F := ev1F op A B (z :: rest)) hS hW ⟨by omega, by omega⟩ (ev1_ch (sc := scC I s wi vv a y) (A := A) (B := B) (C := C) (nt := nt) (rest := rest) (z := z) h0) (by omega) (by rw [t3 5 (by decide)]; exact f5) t1 (StkC.of rest (keepS rest (by omega) hk.2) (fun i hi => ⟨rfl, t2 _ (s5 i _ (by omega) (by omega) (by omega)) (fun q => ne3 _ _ (by omega) (by omega) q.symm) (ne1 _ (by omega)), t2 _ (ne3 _ _ (by omega) (by omega)) (fun q => s5 i _ (by omega) (by omega) (by omega) (Nat.succ.inj q)) (ne2 _ (by omega))⟩)) (by rw [t4, iv, ev1F_top]) (fun q q1 q2 q3 => (t2 q (fun u => q3 (u ▸ (hW _ (by omega)).1)) (fun u => q3 (u ▸ (hW _ (by omega)).2)) q1).trans (fr1 q q1 q2 q3)) (fun j j5 j6 => (t3 j j6).trans (by rw [iv]))
  refine VW.aload_n (pc' := 1) d_Evaluator_step_0 rfl rfl ?_
  refine VW.gP (ci := 4) (T := T4) (N := 13) (k := 2) (k' := 2) (pc' := 4) d_Evaluator_step_1 rfl lk_Evaluator_68 in4 rfl rfl rfl rfl (by first | exact hQ.k | exact s1 | exact s3 | exact sd.2.1 | exact hQ.k2 | exact hQ.k3 | exact hQ.k4 | exact hQ.k5 | exact hQ.k6 | exact hQ.k8 | exact hQ.k12 | exact hG.1 | exact hRw.1) (by first | exact v0 | exact s2 | exact sd.1 | exact hQ.p2 | exact hQ.p3 | exact hQ.p4 | exact hQ.p5 | exact hQ.p6 | exact hQ.p8 | exact hQ.p12 | rfl) ?_
  refine VW.iload_n (pc' := 5) d_Evaluator_step_4 rfl rfl ?_
  refine VW.ild (pc' := 6) d_Evaluator_step_5 rfl (by first | exact hQ.k | exact s1 | exact s3 | exact sd.2.1 | exact hQ.k2 | exact hQ.k3 | exact hQ.k4 | exact hQ.k5 | exact hQ.k6 | exact hQ.k8 | exact hQ.k12 | exact hG.1 | exact hRw.1) (by omega) (by omega) (eO) ?_
  refine VW.istore (pc' := 8) d_Evaluator_step_6 rfl rfl ?_
  refine VW.iload (pc' := 10) d_Evaluator_step_8 rfl rfl ?_
  refine VW.if_ne (tgt := 17) (pc' := 13) d_Evaluator_step_10 rfl rfl (fun c10 => ?_) (fun c10 => ?_)
  case refine_2 => exact absurd c10 (by omega)
  refine VW.iload (pc' := 19) d_Evaluator_step_17 rfl rfl ?_
  refine VW.iconst (pc' := 20) d_Evaluator_step_19 rfl (by decide) ?_
  refine VW.icmp_eq (tgt := 30) (pc' := 23) d_Evaluator_step_20 rfl rfl (fun c20 => ?_) (fun c20 => ?_)
  case refine_1 => exact absurd c20 (by omega)
  refine VW.iload (pc' := 25) d_Evaluator_step_23 rfl rfl ?_
  refine VW.bipush (pc' := 27) d_Evaluator_step_25 rfl (by decide) ?_
  refine VW.icmp_ne (tgt := 34) (pc' := 30) d_Evaluator_step_27 rfl rfl (fun c27 => ?_) (fun c27 => ?_)
  case refine_2 => exact absurd c27 (by omega)
  refine VW.iconst (pc' := 35) d_Evaluator_step_34 rfl (by decide) ?_
  refine VW.istore (pc' := 37) d_Evaluator_step_35 rfl rfl ?_
  refine VW.aload_n (pc' := 38) d_Evaluator_step_37 rfl rfl ?_
  refine VW.gI (ci := 1) (T := T1) (N := 7) (k := 5) (k' := 5) (pc' := 41) d_Evaluator_step_38 rfl lk_Evaluator_33 in1 rfl rfl rfl rfl (by first | exact hQ.k | exact s1 | exact s3 | exact sd.2.1 | exact hQ.k2 | exact hQ.k3 | exact hQ.k4 | exact hQ.k5 | exact hQ.k6 | exact hQ.k8 | exact hQ.k12 | exact hG.1 | exact hRw.1) (h5) ?_
  refine VW.iload (pc' := 43) d_Evaluator_step_41 rfl rfl ?_
  refine VW.icmp_lt (tgt := 58) (pc' := 46) d_Evaluator_step_43 rfl rfl (fun c43 => ?_) (fun c43 => ?_)
  case refine_1 => exact absurd c43 (by omega)
  refine VW.aload_n (pc' := 47) d_Evaluator_step_46 rfl rfl ?_
  refine VW.gI (ci := 1) (T := T1) (N := 7) (k := 5) (k' := 5) (pc' := 50) d_Evaluator_step_47 rfl lk_Evaluator_33 in1 rfl rfl rfl rfl (by first | exact hQ.k | exact s1 | exact s3 | exact sd.2.1 | exact hQ.k2 | exact hQ.k3 | exact hQ.k4 | exact hQ.k5 | exact hQ.k6 | exact hQ.k8 | exact hQ.k12 | exact hG.1 | exact hRw.1) (h5) ?_
  refine VW.aload_n (pc' := 51) d_Evaluator_step_50 rfl rfl ?_
  refine VW.gP (ci := 1) (T := T1) (N := 7) (k := 1) (k' := 1) (pc' := 54) d_Evaluator_step_51 rfl lk_Evaluator_11 in1 rfl rfl rfl rfl (by first | exact hQ.k | exact s1 | exact s3 | exact sd.2.1 | exact hQ.k2 | exact hQ.k3 | exact hQ.k4 | exact hQ.k5 | exact hQ.k6 | exact hQ.k8 | exact hQ.k12 | exact hG.1 | exact hRw.1) (by first | exact v0 | exact s2 | exact sd.1 | exact hQ.p2 | exact hQ.p3 | exact hQ.p4 | exact hQ.p5 | exact hQ.p6 | exact hQ.p8 | exact hQ.p12 | rfl) ?_
  refine VW.alen (pc' := 55) d_Evaluator_step_54 rfl (by first | exact hQ.k | exact s1 | exact s3 | exact sd.2.1 | exact hQ.k2 | exact hQ.k3 | exact hQ.k4 | exact hQ.k5 | exact hQ.k6 | exact hQ.k8 | exact hQ.k12 | exact hG.1 | exact hRw.1) (by simp) (by omega) ?_
  refine VW.icmp_lt (tgt := 64) (pc' := 58) d_Evaluator_step_55 rfl rfl (fun c55 => ?_) (fun c55 => ?_)
  case refine_2 => exact absurd c55 (by omega)
  refine VW.aload_n (pc' := 65) d_Evaluator_step_64 rfl rfl ?_
  refine VW.gP (ci := 1) (T := T1) (N := 7) (k := 1) (k' := 1) (pc' := 68) d_Evaluator_step_65 rfl lk_Evaluator_11 in1 rfl rfl rfl rfl (by first | exact hQ.k | exact s1 | exact s3 | exact sd.2.1 | exact hQ.k2 | exact hQ.k3 | exact hQ.k4 | exact hQ.k5 | exact hQ.k6 | exact hQ.k8 | exact hQ.k12 | exact hG.1 | exact hRw.1) (by first | exact v0 | exact s2 | exact sd.1 | exact hQ.p2 | exact hQ.p3 | exact hQ.p4 | exact hQ.p5 | exact hQ.p6 | exact hQ.p8 | exact hQ.p12 | rfl) ?_
  refine VW.aload_n (pc' := 69) d_Evaluator_step_68 rfl rfl ?_
  refine VW.gI (ci := 1) (T := T1) (N := 7) (k := 5) (k' := 5) (pc' := 72) d_Evaluator_step_69 rfl lk_Evaluator_33 in1 rfl rfl rfl rfl (by first | exact hQ.k | exact s1 | exact s3 | exact sd.2.1 | exact hQ.k2 | exact hQ.k3 | exact hQ.k4 | exact hQ.k5 | exact hQ.k6 | exact hQ.k8 | exact hQ.k12 | exact hG.1 | exact hRw.1) (h5) ?_
  refine VW.rld (pc' := 73) d_Evaluator_step_72 rfl (by first | exact hQ.k | exact s1 | exact s3 | exact sd.2.1 | exact hQ.k2 | exact hQ.k3 | exact hQ.k4 | exact hQ.k5 | exact hQ.k6 | exact hQ.k8 | exact hQ.k12 | exact hG.1 | exact hRw.1) (by omega) (by omega) (by first | exact v0 | exact s2 | exact sd.1 | exact hQ.p2 | exact hQ.p3 | exact hQ.p4 | exact hQ.p5 | exact hQ.p6 | exact hQ.p8 | exact hQ.p12 | rfl) ?_
  refine VW.astore (pc' := 75) d_Evaluator_step_73 rfl rfl ?_
  refine VW.aload (pc' := 77) d_Evaluator_step_75 rfl rfl ?_
  refine VW.aload_n (pc' := 78) d_Evaluator_step_77 rfl rfl ?_
  refine VW.gP (ci := 4) (T := T4) (N := 13) (k := 4) (k' := 4) (pc' := 81) d_Evaluator_step_78 rfl lk_Evaluator_71 in4 rfl rfl rfl rfl (by first | exact hQ.k | exact s1 | exact s3 | exact sd.2.1 | exact hQ.k2 | exact hQ.k3 | exact hQ.k4 | exact hQ.k5 | exact hQ.k6 | exact hQ.k8 | exact hQ.k12 | exact hG.1 | exact hRw.1) (by first | exact v0 | exact s2 | exact sd.1 | exact hQ.p2 | exact hQ.p3 | exact hQ.p4 | exact hQ.p5 | exact hQ.p6 | exact hQ.p8 | exact hQ.p12 | rfl) ?_
  refine VW.iload_n (pc' := 82) d_Evaluator_step_81 rfl rfl ?_
  refine VW.ild (pc' := 83) d_Evaluator_step_82 rfl (by first | exact hQ.k | exact s1 | exact s3 | exact sd.2.1 | exact hQ.k2 | exact hQ.k3 | exact hQ.k4 | exact hQ.k5 | exact hQ.k6 | exact hQ.k8 | exact hQ.k12 | exact hG.1 | exact hRw.1) (by omega) (by omega) (eW) ?_
  refine VW.cV (ci := 5) (T := T5) (N := 3) (pc' := 86) d_Evaluator_step_83 rfl mv_Relation_reset lk_Evaluator_57 rfl (by first | exact hQ.k | exact s1 | exact s3 | exact sd.2.1 | exact hQ.k2 | exact hQ.k3 | exact hQ.k4 | exact hQ.k5 | exact hQ.k6 | exact hQ.k8 | exact hQ.k12 | exact hG.1 | exact hRw.1) rfl rfl rfl (Nat.le_refl _) (Nat.le_refl _) (sp_Relation_reset sd.2) rfl rfl ?_
  rw [hI1]
  refine VW.iload (pc' := 88) d_Evaluator_step_86 rfl rfl ?_
  refine VW.if_ne (tgt := 109) (pc' := 91) d_Evaluator_step_88 rfl rfl (fun _ => ?_) (fun c88 => absurd c88 (by decide))
  refine VW.iload (pc' := 111) d_Evaluator_step_109 rfl rfl ?_
  refine VW.iconst (pc' := 112) d_Evaluator_step_111 rfl (by decide) ?_
  refine VW.icmp_ne (tgt := 137) (pc' := 115) d_Evaluator_step_112 rfl rfl (fun c112 => absurd c112 (by decide)) (fun _ => ?_)
  refine VW.aload_n (pc' := 116) d_Evaluator_step_115 rfl rfl ?_
  refine VW.aload (pc' := 118) d_Evaluator_step_116 rfl rfl ?_
  refine VW.aload_n (pc' := 119) d_Evaluator_step_118 rfl rfl ?_
  refine VW.gP (ci := 1) (T := T1) (N := 7) (k := 1) (k' := 1) (pc' := 122) d_Evaluator_step_119 rfl lk_Evaluator_11 in1 rfl rfl rfl rfl (by first | exact hQ.k | exact s1 | exact s3 | exact sd.2.1 | exact hQ.k2 | exact hQ.k3 | exact hQ.k4 | exact hQ.k5 | exact hQ.k6 | exact hQ.k8 | exact hQ.k12 | exact hG.1 | exact hRw.1) (by first | exact v0 | exact s2 | exact sd.1 | exact hQ.p2 | exact hQ.p3 | exact hQ.p4 | exact hQ.p5 | exact hQ.p6 | exact hQ.p8 | exact hQ.p12 | rfl) ?_
  refine VW.aload_n (pc' := 123) d_Evaluator_step_122 rfl rfl ?_
  refine VW.gI (ci := 1) (T := T1) (N := 7) (k := 5) (k' := 5) (pc' := 126) d_Evaluator_step_123 rfl lk_Evaluator_33 in1 rfl rfl rfl rfl (by first | exact hQ.k | exact s1 | exact s3 | exact sd.2.1 | exact hQ.k2 | exact hQ.k3 | exact hQ.k4 | exact hQ.k5 | exact hQ.k6 | exact hQ.k8 | exact hQ.k12 | exact hG.1 | exact hRw.1) (f5) ?_
  refine VW.iconst (pc' := 127) d_Evaluator_step_126 rfl (by decide) ?_
  refine VW.isub (pc' := 128) d_Evaluator_step_127 rfl (by omega) ?_
  refine VW.rld (pc' := 129) d_Evaluator_step_128 rfl (by first | exact hQ.k | exact s1 | exact s3 | exact sd.2.1 | exact hQ.k2 | exact hQ.k3 | exact hQ.k4 | exact hQ.k5 | exact hQ.k6 | exact hQ.k8 | exact hQ.k12 | exact hG.1 | exact hRw.1) (by omega) (by omega) (pt) ?_
  refine VW.aload_n (pc' := 130) d_Evaluator_step_129 rfl rfl ?_
  refine VW.iload_n (pc' := 131) d_Evaluator_step_130 rfl rfl ?_
  refine VW.cVu (ci := 1) (T := T1) (N := 7) (pc' := 134) d_Evaluator_step_131 rfl mv_Evaluator_changeInto lk_Evaluator_82 rfl (by first | exact hQ.k | exact s1 | exact s3 | exact sd.2.1 | exact hQ.k2 | exact hQ.k3 | exact hQ.k4 | exact hQ.k5 | exact hQ.k6 | exact hQ.k8 | exact hQ.k12 | exact hG.1 | exact hRw.1) rfl rfl rfl (Nat.le_refl _) (Nat.le_refl _) (sp_Evaluator_changeInto s1 hA hR (r0 _ (hWd nt)) hB.1.1 hB.1.2 h6' hQ hx eO1 eA1 eB1 eC1 eN1 hch) rfl rfl (fun T2 h2 => ?_)
  refine VW.goto (pc' := 209) d_Evaluator_step_134 rfl ?_
  refine VW.pick [0, 6, 7] ?_
  exact fin T2 h2
theorem st_join {v sk s od sp mm wi ck dt tg ru vv r a qn : Nat} {e : Nat → Nat} {Wn : Nat → Prop} {st : STK} {x y op A B C nt W : Int} (hw : SpW K P I v sk s od sp mm wi ck dt tg ru vv r a qn e Wn) (hx : 0 ≤ x ∧ x < 12) (eO : I (qn + 3) x = op) (eA : I (qn + 4) (x * 4 + 0) = A) (eB : I (qn + 4) (x * 4 + 1) = B) (eC : I (qn + 4) (x * 4 + 2) = C) (eN : I (qn + 4) (x * 4 + 3) = nt) (eW : I (qn + 5) x = W) (hB : stB st) (hk : StkC I e st) (h5 : I v 5 = st.length) (hl : st.length ≤ 3) (h6 : I v 6 = 0 ∨ I v 6 = 1) (hok : okC op A B C W st) (hsc : op = 0 → W = I wi A ∧ 0 ≤ W ∧ W ≤ 4) (h0 : op = 4) : Sp m_Evaluator_step false (rmv 6 240) (fun r' K' P' J' I' => r' = .inl none ∧ K' = K ∧ J' = J ∧ StR K P J I v sk mm e Wn (ev1 (scC I s wi vv a y) op A B C nt st) (ev1F op A B st) P' I' : PQ) K P J I [vR (some v), vR (some qn), vI x, vR (some r), vI y] := by
  obtain ⟨z, u, rest, hst, ⟨hj1, hj2⟩, hj3, hj4, hj5⟩ := hok.2.2.1 h0
  subst hst
  subst h0
  have h5 : I v 5 = (((rest.length + 2) : Nat) : Int) := h5
  have hl : (rest.length + 2) ≤ 3 := hl
  refine Sp.ofV (by decide) (Or.inr rfl) rfl ?_
  obtain ⟨⟨hS, hW, hWn⟩, ⟨v0, ⟨v2, v2k⟩, ⟨v3, v3k⟩, v4, v4k⟩, hG, hRw, hQ, hc, hd⟩ := id hw
  obtain ⟨s1, s2, s3, s4, s5⟩ := id hS
  have sd := s4 (rest.length + 2) (by omega)
  have ne1 : ∀ i : Nat, i < 4 → e i ≠ v := fun i hi z => by have := (s4 i hi).2.1.symm.trans (z ▸ s1); cases this
  have ne2 : ∀ i : Nat, i < 4 → e i + 1 ≠ v := fun i hi z => by have := (s4 i hi).2.2.2.symm.trans (z ▸ s1); cases this
  have ne3 : ∀ i j : Nat, i < 4 → j < 4 → e i + 1 ≠ e j := fun i j hi hj z => by have := (s4 i hi).2.2.2.symm.trans (z ▸ (s4 j hj).2.1); cases this
  have arr : ∀ {q m : Nat}, K q = some (100, m) → q ≠ e (rest.length + 2) := fun h z => by have := h.symm.trans (z ▸ sd.2.1); cases this
  have nS : s ≠ e (rest.length + 2) := fun z => by have := hG.1.symm.trans (z ▸ sd.2.1); cases this
  -- behind the reset
  have i1 : ∀ {q : Nat}, q ≠ e (rest.length + 2) → up2 (up2 I (e (rest.length + 2)) 1 0) (e (rest.length + 2)) 2 W q = I q := fun h => funext (fun z => (up2_o _ _ _ _ h).trans (up2_o _ _ _ _ h))
  generalize hI1 : up2 (up2 I (e (rest.length + 2)) 1 0) (e (rest.length + 2)) 2 W = I1 at i1
  have r0 : ∀ w : Nat, W = w → RelR I1 (e (rest.length + 2)) (e (rest.length + 2) + 1) w [] := fun w h => by
    rw [← hI1]
    exact ⟨(up2_eq _ _ _ _).trans h, (up2_k _ _ _ _ (by decide)).trans (up2_eq _ _ _ _), rfl⟩
  have iv : I1 v = I v := i1 (ne1 _ (by omega)).symm
  have f5 : I1 v 5 = (rest.length + 2) := by rw [iv]; exact h5
  have fr1 : ∀ q, q ≠ v → q ≠ mm → ¬ Wn q → I1 q = I q := fun q _ _ q3 => i1 (fun z => q3 (z ▸ (hW _ (by omega)).1))
  have keep : ∀ (i : Nat) (w : Nat) (M : List (List Int)), i < (rest.length + 2) → RelR I (e i) (e i + 1) w M → RelR I1 (e i) (e i + 1) w M := fun i w M hi h => h.of (i1 (s5 i _ (by omega) (by omega) (by omega))) (i1 (arr (s4 i (by omega)).2.2.2))
  have keepS : ∀ rs : STK, rs.length < (rest.length + 2) + 1 → StkC I e rs → StkC I1 e rs := fun rs hr h => StkC.of rs h (fun i hi => ⟨rfl, i1 (s5 i _ (by omega) (by omega) (by omega)), i1 (arr (s4 i (by omega)).2.2.2)⟩)
  have eA1 : I1 (qn + 4) (x * 4 + 0) = A := by rw [i1 (arr hQ.k3)]; exact eA
  have eB1 : I1 (qn + 4) (x * 4 + 1) = B := by rw [i1 (arr hQ.k3)]; exact eB
  have eC1 : I1 (qn + 4) (x * 4 + 2) = C := by rw [i1 (arr hQ.k3)]; exact eC
  have si := s4 rest.length (by omega)
  have sj := s4 (rest.length + 1) (by omega)
  have hA : ReT K P (e (rest.length + 2)) (e (rest.length + 2) + 1) (e rest.length) (e rest.length + 1) (e (rest.length + 1)) (e (rest.length + 1) + 1) := ⟨sd.2, si.2, sj.2, s5 _ _ (by omega) (by omega) (by omega), fun q => s5 _ _ (by omega) (by omega) (by omega) (Nat.succ.inj q), s5 _ _ (by omega) (by omega) (by omega), fun q => s5 _ _ (by omega) (by omega) (by omega) (Nat.succ.inj q)⟩
  have hRl := keep rest.length u.1 u.2 (by omega) hk.2.1
  have hRr := keep (rest.length + 1) z.1 z.2 (by omega) hk.1
  have p1 : P sk (((rest.length + 2 : Nat) : Int) - 1) = some (e (rest.length + 1)) := by rw [show ((rest.length + 2 : Nat) : Int) - 1 = ((rest.length + 1 : Nat) : Int) by omega]; exact sj.1
  have p2 : P sk (((rest.length + 2 : Nat) : Int) - 2) = some (e rest.length) := by rw [show ((rest.length + 2 : Nat) : Int) - 2 = rest.length by omega]; exact si.1
  have nmm : ∀ i : Nat, i < 4 → e i ≠ mm ∧ e i + 1 ≠ mm := fun i hi => ⟨fun q => by (have := (s4 i hi).2.1.symm.trans (q ▸ v4k)); (cases this), fun q => by (have := (s4 i hi).2.2.2.symm.trans (q ▸ v4k)); (cases this)⟩
  have nvm : v ≠ mm := fun q => by have := s1.symm.trans (q ▸ v4k); cases this
  have fin := fun (T : IT) (M : Nat × List (List Int)) (hT : RelR T (e (rest.length + 2)) (e (rest.length + 2) + 1) M.1 M.2 ∧ ∀ q, q ≠ e (rest.length + 2) → q ≠ e (rest.length + 2) + 1 → q ≠ mm → T q = I1 q) (hM : ev1 (scC I s wi vv a y) 4 A B C nt (z :: u :: rest) = M :: rest) => by
    obtain ⟨t1, t2⟩ := hT
    have ev : T v = I v := (t2 v (ne1 _ (by omega)).symm (ne2 _ (by omega)).symm nvm).trans iv
    exact st_tail (J := J) (I := I) (T := T) (v := v) (sk := sk) (mm := mm) (d := rest.length + 2) (o := 2) (F := ev1F 4 A B (z :: u :: rest)) hS hW ⟨by omega, by omega⟩ hM (by omega) (by rw [ev]; exact h5) t1 (StkC.of rest (keepS rest (by omega) hk.2.2) (fun i hi => ⟨rfl, t2 _ (s5 i _ (by omega) (by omega) (by omega)) (fun q => ne3 _ _ (by omega) (by omega) q.symm) (nmm i (by omega)).1, t2 _ (ne3 _ _ (by omega) (by omega)) (fun q => s5 i _ (by omega) (by omega) (by omega) (Nat.succ.inj q)) (nmm i (by omega)).2⟩)) (by
      rw [ev]
      exact bI_keep h6 (ev1F_no (by decide))) (fun q q1 q2 q3 => (t2 q (fun w => q3 (w ▸ (hW _ (by omega)).1)) (fun w => q3 (w ▸ (hW _ (by omega)).2)) q2).trans (fr1 q q1 q2 q3)) (fun j j5 j6 => by rw [ev])
  have hJ : JoP K P I1 v mm (e (rest.length + 2)) (e (rest.length + 2) + 1) (e rest.length) (e rest.length + 1) (e (rest.length + 1)) (e (rest.length + 1) + 1) u.1 z.1 A B C u.2 z.2 := ⟨⟨s1, v4, v4k⟩, hA, ⟨hRl, hRr⟩, ⟨hj1, hB.2.1.1, hB.1.1⟩, ⟨hB.2.1.2, hB.1.2, hj3⟩, hj4, hj5⟩
  have ew : ev1 (scC I s wi vv a y) 4 A B C nt (z :: u :: rest) = (jWid A u.1 z.1, joinL A B C u.1 z.1 u.2 z.2) :: rest := by
    rw [ev1_j rfl]
    congr 2
    unfold jWid
    (repeat' split) <;> first | rfl | (exfalso; omega)
  refine VW.aload_n (pc' := 1) d_Evaluator_step_0 rfl rfl ?_
  refine VW.gP (ci := 4) (T := T4) (N := 13) (k := 2) (k' := 2) (pc' := 4) d_Evaluator_step_1 rfl lk_Evaluator_68 in4 rfl rfl rfl rfl (by first | exact hQ.k | exact s1 | exact s3 | exact sd.2.1 | exact hQ.k2 | exact hQ.k3 | exact hQ.k4 | exact hQ.k5 | exact hQ.k6 | exact hQ.k8 | exact hQ.k12 | exact hG.1 | exact hRw.1) (by first | exact v0 | exact s2 | exact sd.1 | exact hQ.p2 | exact hQ.p3 | exact hQ.p4 | exact hQ.p5 | exact hQ.p6 | exact hQ.p8 | exact hQ.p12 | rfl) ?_
  refine VW.iload_n (pc' := 5) d_Evaluator_step_4 rfl rfl ?_
  refine VW.ild (pc' := 6) d_Evaluator_step_5 rfl (by first | exact hQ.k | exact s1 | exact s3 | exact sd.2.1 | exact hQ.k2 | exact hQ.k3 | exact hQ.k4 | exact hQ.k5 | exact hQ.k6 | exact hQ.k8 | exact hQ.k12 | exact hG.1 | exact hRw.1) (by omega) (by omega) (eO) ?_
  refine VW.istore (pc' := 8) d_Evaluator_step_6 rfl rfl ?_
  refine VW.iload (pc' := 10) d_Evaluator_step_8 rfl rfl ?_
  refine VW.if_ne (tgt := 17) (pc' := 13) d_Evaluator_step_10 rfl rfl (fun c10 => ?_) (fun c10 => ?_)
  case refine_2 => exact absurd c10 (by decide)
  refine VW.iload (pc' := 19) d_Evaluator_step_17 rfl rfl ?_
  refine VW.iconst (pc' := 20) d_Evaluator_step_19 rfl (by decide) ?_
  refine VW.icmp_eq (tgt := 30) (pc' := 23) d_Evaluator_step_20 rfl rfl (fun c20 => ?_) (fun c20 => ?_)
  case refine_2 => exact absurd c20 (by decide)
  refine VW.iconst (pc' := 31) d_Evaluator_step_30 rfl (by decide) ?_
  refine VW.goto (pc' := 35) d_Evaluator_step_31 rfl ?_
  refine VW.istore (pc' := 37) d_Evaluator_step_35 rfl rfl ?_
  refine VW.aload_n (pc' := 38) d_Evaluator_step_37 rfl rfl ?_
  refine VW.gI (ci := 1) (T := T1) (N := 7) (k := 5) (k' := 5) (pc' := 41) d_Evaluator_step_38 rfl lk_Evaluator_33 in1 rfl rfl rfl rfl (by first | exact hQ.k | exact s1 | exact s3 | exact sd.2.1 | exact hQ.k2 | exact hQ.k3 | exact hQ.k4 | exact hQ.k5 | exact hQ.k6 | exact hQ.k8 | exact hQ.k12 | exact hG.1 | exact hRw.1) (h5) ?_
  refine VW.iload (pc' := 43) d_Evaluator_step_41 rfl rfl ?_
  refine VW.icmp_lt (tgt := 58) (pc' := 46) d_Evaluator_step_43 rfl rfl (fun c43 => ?_) (fun c43 => ?_)
  case refine_1 => exact absurd c43 (by omega)
  refine VW.aload_n (pc' := 47) d_Evaluator_step_46 rfl rfl ?_
  refine VW.gI (ci := 1) (T := T1) (N := 7) (k := 5) (k' := 5) (pc' := 50) d_Evaluator_step_47 rfl lk_Evaluator_33 in1 rfl rfl rfl rfl (by first | exact hQ.k | exact s1 | exact s3 | exact sd.2.1 | exact hQ.k2 | exact hQ.k3 | exact hQ.k4 | exact hQ.k5 | exact hQ.k6 | exact hQ.k8 | exact hQ.k12 | exact hG.1 | exact hRw.1) (h5) ?_
  refine VW.aload_n (pc' := 51) d_Evaluator_step_50 rfl rfl ?_
  refine VW.gP (ci := 1) (T := T1) (N := 7) (k := 1) (k' := 1) (pc' := 54) d_Evaluator_step_51 rfl lk_Evaluator_11 in1 rfl rfl rfl rfl (by first | exact hQ.k | exact s1 | exact s3 | exact sd.2.1 | exact hQ.k2 | exact hQ.k3 | exact hQ.k4 | exact hQ.k5 | exact hQ.k6 | exact hQ.k8 | exact hQ.k12 | exact hG.1 | exact hRw.1) (by first | exact v0 | exact s2 | exact sd.1 | exact hQ.p2 | exact hQ.p3 | exact hQ.p4 | exact hQ.p5 | exact hQ.p6 | exact hQ.p8 | exact hQ.p12 | rfl) ?_
  refine VW.alen (pc' := 55) d_Evaluator_step_54 rfl (by first | exact hQ.k | exact s1 | exact s3 | exact sd.2.1 | exact hQ.k2 | exact hQ.k3 | exact hQ.k4 | exact hQ.k5 | exact hQ.k6 | exact hQ.k8 | exact hQ.k12 | exact hG.1 | exact hRw.1) (by simp) (by omega) ?_
  refine VW.icmp_lt (tgt := 64) (pc' := 58) d_Evaluator_step_55 rfl rfl (fun c55 => ?_) (fun c55 => ?_)
  case refine_2 => exact absurd c55 (by omega)
  refine VW.aload_n (pc' := 65) d_Evaluator_step_64 rfl rfl ?_
  refine VW.gP (ci := 1) (T := T1) (N := 7) (k := 1) (k' := 1) (pc' := 68) d_Evaluator_step_65 rfl lk_Evaluator_11 in1 rfl rfl rfl rfl (by first | exact hQ.k | exact s1 | exact s3 | exact sd.2.1 | exact hQ.k2 | exact hQ.k3 | exact hQ.k4 | exact hQ.k5 | exact hQ.k6 | exact hQ.k8 | exact hQ.k12 | exact hG.1 | exact hRw.1) (by first | exact v0 | exact s2 | exact sd.1 | exact hQ.p2 | exact hQ.p3 | exact hQ.p4 | exact hQ.p5 | exact hQ.p6 | exact hQ.p8 | exact hQ.p12 | rfl) ?_
  refine VW.aload_n (pc' := 69) d_Evaluator_step_68 rfl rfl ?_
  refine VW.gI (ci := 1) (T := T1) (N := 7) (k := 5) (k' := 5) (pc' := 72) d_Evaluator_step_69 rfl lk_Evaluator_33 in1 rfl rfl rfl rfl (by first | exact hQ.k | exact s1 | exact s3 | exact sd.2.1 | exact hQ.k2 | exact hQ.k3 | exact hQ.k4 | exact hQ.k5 | exact hQ.k6 | exact hQ.k8 | exact hQ.k12 | exact hG.1 | exact hRw.1) (h5) ?_
  refine VW.rld (pc' := 73) d_Evaluator_step_72 rfl (by first | exact hQ.k | exact s1 | exact s3 | exact sd.2.1 | exact hQ.k2 | exact hQ.k3 | exact hQ.k4 | exact hQ.k5 | exact hQ.k6 | exact hQ.k8 | exact hQ.k12 | exact hG.1 | exact hRw.1) (by omega) (by omega) (by first | exact v0 | exact s2 | exact sd.1 | exact hQ.p2 | exact hQ.p3 | exact hQ.p4 | exact hQ.p5 | exact hQ.p6 | exact hQ.p8 | exact hQ.p12 | rfl) ?_
  refine VW.astore (pc' := 75) d_Evaluator_step_73 rfl rfl ?_
  refine VW.aload (pc' := 77) d_Evaluator_step_75 rfl rfl ?_
  refine VW.aload_n (pc' := 78) d_Evaluator_step_77 rfl rfl ?_
  refine VW.gP (ci := 4) (T := T4) (N := 13) (k := 4) (k' := 4) (pc' := 81) d_Evaluator_step_78 rfl lk_Evaluator_71 in4 rfl rfl rfl rfl (by first | exact hQ.k | exact s1 | exact s3 | exact sd.2.1 | exact hQ.k2 | exact hQ.k3 | exact hQ.k4 | exact hQ.k5 | exact hQ.k6 | exact hQ.k8 | exact hQ.k12 | exact hG.1 | exact hRw.1) (by first | exact v0 | exact s2 | exact sd.1 | exact hQ.p2 | exact hQ.p3 | exact hQ.p4 | exact hQ.p5 | exact hQ.p6 | exact hQ.p8 | exact hQ.p12 | rfl) ?_
  refine VW.iload_n (pc' := 82) d_Evaluator_step_81 rfl rfl ?_
  refine VW.ild (pc' := 83) d_Evaluator_step_82 rfl (by first | exact hQ.k | exact s1 | exact s3 | exact sd.2.1 | exact hQ.k2 | exact hQ.k3 | exact hQ.k4 | exact hQ.k5 | exact hQ.k6 | exact hQ.k8 | exact hQ.k12 | exact hG.1 | exact hRw.1) (by omega) (by omega) (eW) ?_
  refine VW.cV (ci := 5) (T := T5) (N := 3) (pc' := 86) d_Evaluator_step_83 rfl mv_Relation_reset lk_Evaluator_57 rfl (by first | exact hQ.k | exact s1 | exact s3 | exact sd.2.1 | exact hQ.k2 | exact hQ.k3 | exact hQ.k4 | exact hQ.k5 | exact hQ.k6 | exact hQ.k8 | exact hQ.k12 | exact hG.1 | exact hRw.1) rfl rfl rfl (Nat.le_refl _) (Nat.le_refl _) (sp_Relation_reset sd.2) rfl rfl ?_
  rw [hI1]
  refine VW.iload (pc' := 88) d_Evaluator_step_86 rfl rfl ?_
  refine VW.if_ne (tgt := 109) (pc' := 91) d_Evaluator_step_88 rfl rfl (fun _ => ?_) (fun c88 => absurd c88 (by decide))
  refine VW.iload (pc' := 111) d_Evaluator_step_109 rfl rfl ?_
  refine VW.iconst (pc' := 112) d_Evaluator_step_111 rfl (by decide) ?_
  refine VW.icmp_ne (tgt := 137) (pc' := 115) d_Evaluator_step_112 rfl rfl (fun _ => ?_) (fun c112 => absurd c112 (by decide))
  refine VW.iload (pc' := 139) d_Evaluator_step_137 rfl rfl ?_
  refine VW.iconst (pc' := 140) d_Evaluator_step_139 rfl (by decide) ?_
  refine VW.icmp_ne (tgt := 176) (pc' := 143) d_Evaluator_step_140 rfl rfl (fun c140 => ?_) (fun c140 => ?_)
  case refine_1 => exact absurd c140 (by decide)
  refine VW.aload_n (pc' := 144) d_Evaluator_step_143 rfl rfl ?_
  refine VW.aload (pc' := 146) d_Evaluator_step_144 rfl rfl ?_
  refine VW.aload_n (pc' := 147) d_Evaluator_step_146 rfl rfl ?_
  refine VW.gP (ci := 1) (T := T1) (N := 7) (k := 1) (k' := 1) (pc' := 150) d_Evaluator_step_147 rfl lk_Evaluator_11 in1 rfl rfl rfl rfl (by first | exact hQ.k | exact s1 | exact s3 | exact sd.2.1 | exact hQ.k2 | exact hQ.k3 | exact hQ.k4 | exact hQ.k5 | exact hQ.k6 | exact hQ.k8 | exact hQ.k12 | exact hG.1 | exact hRw.1) (by first | exact v0 | exact s2 | exact sd.1 | exact hQ.p2 | exact hQ.p3 | exact hQ.p4 | exact hQ.p5 | exact hQ.p6 | exact hQ.p8 | exact hQ.p12 | rfl) ?_
  refine VW.aload_n (pc' := 151) d_Evaluator_step_150 rfl rfl ?_
  refine VW.gI (ci := 1) (T := T1) (N := 7) (k := 5) (k' := 5) (pc' := 154) d_Evaluator_step_151 rfl lk_Evaluator_33 in1 rfl rfl rfl rfl (by first | exact hQ.k | exact s1 | exact s3 | exact sd.2.1 | exact hQ.k2 | exact hQ.k3 | exact hQ.k4 | exact hQ.k5 | exact hQ.k6 | exact hQ.k8 | exact hQ.k12 | exact hG.1 | exact hRw.1) (f5) ?_
  refine VW.iconst (pc' := 155) d_Evaluator_step_154 rfl (by decide) ?_
  refine VW.isub (pc' := 156) d_Evaluator_step_155 rfl (by omega) ?_
  refine VW.rld (pc' := 157) d_Evaluator_step_156 rfl (by first | exact hQ.k | exact s1 | exact s3 | exact sd.2.1 | exact hQ.k2 | exact hQ.k3 | exact hQ.k4 | exact hQ.k5 | exact hQ.k6 | exact hQ.k8 | exact hQ.k12 | exact hG.1 | exact hRw.1) (by omega) (by omega) (p2) ?_
  refine VW.aload_n (pc' := 158) d_Evaluator_step_157 rfl rfl ?_
  refine VW.gP (ci := 1) (T := T1) (N := 7) (k := 1) (k' := 1) (pc' := 161) d_Evaluator_step_158 rfl lk_Evaluator_11 in1 rfl rfl rfl rfl (by first | exact hQ.k | exact s1 | exact s3 | exact sd.2.1 | exact hQ.k2 | exact hQ.k3 | exact hQ.k4 | exact hQ.k5 | exact hQ.k6 | exact hQ.k8 | exact hQ.k12 | exact hG.1 | exact hRw.1) (by first | exact v0 | exact s2 | exact sd.1 | exact hQ.p2 | exact hQ.p3 | exact hQ.p4 | exact hQ.p5 | exact hQ.p6 | exact hQ.p8 | exact hQ.p12 | rfl) ?_
  refine VW.aload_n (pc' := 162) d_Evaluator_step_161 rfl rfl ?_
  refine VW.gI (ci := 1) (T := T1) (N := 7) (k := 5) (k' := 5) (pc' := 165) d_Evaluator_step_162 rfl lk_Evaluator_33 in1 rfl rfl rfl rfl (by first | exact hQ.k | exact s1 | exact s3 | exact sd.2.1 | exact hQ.k2 | exact hQ.k3 | exact hQ.k4 | exact hQ.k5 | exact hQ.k6 | exact hQ.k8 | exact hQ.k12 | exact hG.1 | exact hRw.1) (f5) ?_
  refine VW.iconst (pc' := 166) d_Evaluator_step_165 rfl (by decide) ?_
  refine VW.isub (pc' := 167) d_Evaluator_step_166 rfl (by omega) ?_
  refine VW.rld (pc' := 168) d_Evaluator_step_167 rfl (by first | exact hQ.k | exact s1 | exact s3 | exact sd.2.1 | exact hQ.k2 | exact hQ.k3 | exact hQ.k4 | exact hQ.k5 | exact hQ.k6 | exact hQ.k8 | exact hQ.k12 | exact hG.1 | exact hRw.1) (by omega) (by omega) (p1) ?_
  refine VW.aload_n (pc' := 169) d_Evaluator_step_168 rfl rfl ?_
  refine VW.iload_n (pc' := 170) d_Evaluator_step_169 rfl rfl ?_
  refine VW.cVu (ci := 1) (T := T1) (N := 7) (pc' := 173) d_Evaluator_step_170 rfl mv_Evaluator_joinInto lk_Evaluator_86 rfl (by first | exact hQ.k | exact s1 | exact s3 | exact sd.2.1 | exact hQ.k2 | exact hQ.k3 | exact hQ.k4 | exact hQ.k5 | exact hQ.k6 | exact hQ.k8 | exact hQ.k12 | exact hG.1 | exact hRw.1) rfl rfl rfl (Nat.le_refl _) (Nat.le_refl _) (sp_Evaluator_joinInto hJ hQ hx eA1 eB1 eC1 (r0 _ hj2)) rfl rfl (fun T2 h2 => ?_)
  refine VW.goto (pc' := 209) d_Evaluator_step_173 rfl ?_
  refine VW.pick [0, 6, 7] ?_
  exact fin T2 (_, _) h2 ew
theorem st_set {v sk s od sp mm wi ck dt tg ru vv r a qn : Nat} {e : Nat → Nat} {Wn : Nat → Prop} {st : STK} {x y op A B C nt W : Int} (hw : SpW K P I v sk s od sp mm wi ck dt tg ru vv r a qn e Wn) (hx : 0 ≤ x ∧ x < 12) (eO : I (qn + 3) x = op) (eA : I (qn + 4) (x * 4 + 0) = A) (eB : I (qn + 4) (x * 4 + 1) = B) (eC : I (qn + 4) (x * 4 + 2) = C) (eN : I (qn + 4) (x * 4 + 3) = nt) (eW : I (qn + 5) x = W) (hB : stB st) (hk : StkC I e st) (h5 : I v 5 = st.length) (hl : st.length ≤ 3) (h6 : I v 6 = 0 ∨ I v 6 = 1) (hok : okC op A B C W st) (hsc : op = 0 → W = I wi A ∧ 0 ≤ W ∧ W ≤ 4) (h0 : op = 7) : Sp m_Evaluator_step false (rmv 6 240) (fun r' K' P' J' I' => r' = .inl none ∧ K' = K ∧ J' = J ∧ StR K P J I v sk mm e Wn (ev1 (scC I s wi vv a y) op A B C nt st) (ev1F op A B st) P' I' : PQ) K P J I [vR (some v), vR (some qn), vI x, vR (some r), vI y] := by
  obtain ⟨z, u, rest, hst, hj1, hj2, hj3⟩ := hok.2.2.2 h0
  subst hst
  subst h0
  have h5 : I v 5 = (((rest.length + 2) : Nat) : Int) := h5
  have hl : (rest.length + 2) ≤ 3 := hl
  refine Sp.ofV (by decide) (Or.inr rfl) rfl ?_
  obtain ⟨⟨hS, hW, hWn⟩, ⟨v0, ⟨v2, v2k⟩, ⟨v3, v3k⟩, v4, v4k⟩, hG, hRw, hQ, hc, hd⟩ := id hw
  obtain ⟨s1, s2, s3, s4, s5⟩ := id hS
  have sd := s4 (rest.length + 2) (by omega)
  have ne1 : ∀ i : Nat, i < 4 → e i ≠ v := fun i hi z => by have := (s4 i hi).2.1.symm.trans (z ▸ s1); cases this
  have ne2 : ∀ i : Nat, i < 4 → e i + 1 ≠ v := fun i hi z => by have := (s4 i hi).2.2.2.symm.trans (z ▸ s1); cases this
  have ne3 : ∀ i j : Nat, i < 4 → j < 4 → e i + 1 ≠ e j := fun i j hi hj z => by have := (s4 i hi).2.2.2.symm.trans (z ▸ (s4 j hj).2.1); cases this
  have arr : ∀ {q m : Nat}, K q = some (100, m) → q ≠ e (rest.length + 2) := fun h z => by have := h.symm.trans (z ▸ sd.2.1); cases this
  have nS : s ≠ e (rest.length + 2) := fun z => by have := hG.1.symm.trans (z ▸ sd.2.1); cases this
  -- behind the reset
  have i1 : ∀ {q : Nat}, q ≠ e (rest.length + 2) → up2 (up2 I (e (rest.length + 2)) 1 0) (e (rest.length + 2)) 2 W q = I q := fun h => funext (fun z => (up2_o _ _ _ _ h).trans (up2_o _ _ _ _ h))
  generalize hI1 : up2 (up2 I (e (rest.length + 2)) 1 0) (e (rest.length + 2)) 2 W = I1 at i1
  have r0 : ∀ w : Nat, W = w → RelR I1 (e (rest.length + 2)) (e (rest.length + 2) + 1) w [] := fun w h => by
    rw [← hI1]
    exact ⟨(up2_eq _ _ _ _).trans h, (up2_k _ _ _ _ (by decide)).trans (up2_eq _ _ _ _), rfl⟩
  have iv : I1 v = I v := i1 (ne1 _ (by omega)).symm
  have f5 : I1 v 5 = (rest.length + 2) := by rw [iv]; exact h5
  have fr1 : ∀ q, q ≠ v → q ≠ mm → ¬ Wn q → I1 q = I q := fun q _ _ q3 => i1 (fun z => q3 (z ▸ (hW _ (by omega)).1))
  have keep : ∀ (i : Nat) (w : Nat) (M : List (List Int)), i < (rest.length + 2) → RelR I (e i) (e i + 1) w M → RelR I1 (e i) (e i + 1) w M := fun i w M hi h => h.of (i1 (s5 i _ (by omega) (by omega) (by omega))) (i1 (arr (s4 i (by omega)).2.2.2))
  have keepS : ∀ rs : STK, rs.length < (rest.length + 2) + 1 → StkC I e rs → StkC I1 e rs := fun rs hr h => StkC.of rs h (fun i hi => ⟨rfl, i1 (s5 i _ (by omega) (by omega) (by omega)), i1 (arr (s4 i (by omega)).2.2.2)⟩)
  have eA1 : I1 (qn + 4) (x * 4 + 0) = A := by rw [i1 (arr hQ.k3)]; exact eA
  have eB1 : I1 (qn + 4) (x * 4 + 1) = B := by rw [i1 (arr hQ.k3)]; exact eB
  have eC1 : I1 (qn + 4) (x * 4 + 2) = C := by rw [i1 (arr hQ.k3)]; exact eC
  have si := s4 rest.length (by omega)
  have sj := s4 (rest.length + 1) (by omega)
  have hA : ReT K P (e (rest.length + 2)) (e (rest.length + 2) + 1) (e rest.length) (e rest.length + 1) (e (rest.length + 1)) (e (rest.length + 1) + 1) := ⟨sd.2, si.2, sj.2, s5 _ _ (by omega) (by omega) (by omega), fun q => s5 _ _ (by omega) (by omega) (by omega) (Nat.succ.inj q), s5 _ _ (by omega) (by omega) (by omega), fun q => s5 _ _ (by omega) (by omega) (by omega) (Nat.succ.inj q)⟩
  have hRl := keep rest.length u.1 u.2 (by omega) hk.2.1
  have hRr := keep (rest.length + 1) z.1 z.2 (by omega) hk.1
  have p1 : P sk (((rest.length + 2 : Nat) : Int) - 1) = some (e (rest.length + 1)) := by rw [show ((rest.length + 2 : Nat) : Int) - 1 = ((rest.length + 1 : Nat) : Int) by omega]; exact sj.1
  have p2 : P sk (((rest.length + 2 : Nat) : Int) - 2) = some (e rest.length) := by rw [show ((rest.length + 2 : Nat) : Int) - 2 = rest.length by omega]; exact si.1
  have nmm : ∀ i : Nat, i < 4 → e i ≠ mm ∧ e i + 1 ≠ mm := fun i hi => ⟨fun q => by (have := (s4 i hi).2.1.symm.trans (q ▸ v4k)); (cases this), fun q => by (have := (s4 i hi).2.2.2.symm.trans (q ▸ v4k)); (cases this)⟩
  have nvm : v ≠ mm := fun q => by have := s1.symm.trans (q ▸ v4k); cases this
  have fin := fun (T : IT) (M : Nat × List (List Int)) (hT : RelR T (e (rest.length + 2)) (e (rest.length + 2) + 1) M.1 M.2 ∧ ∀ q, q ≠ e (rest.length + 2) → q ≠ e (rest.length + 2) + 1 → q ≠ mm → T q = I1 q) (hM : ev1 (scC I s wi vv a y) 7 A B C nt (z :: u :: rest) = M :: rest) => by
    obtain ⟨t1, t2⟩ := hT
    have ev : T v = I v := (t2 v (ne1 _ (by omega)).symm (ne2 _ (by omega)).symm nvm).trans iv
    exact st_tail (J := J) (I := I) (T := T) (v := v) (sk := sk) (mm := mm) (d := rest.length + 2) (o := 2) (F := ev1F 7 A B (z :: u :: rest)) hS hW ⟨by omega, by omega⟩ hM (by omega) (by rw [ev]; exact h5) t1 (StkC.of rest (keepS rest (by omega) hk.2.2) (fun i hi => ⟨rfl, t2 _ (s5 i _ (by omega) (by omega) (by omega)) (fun q => ne3 _ _ (by omega) (by omega) q.symm) (nmm i (by omega)).1, t2 _ (ne3 _ _ (by omega) (by omega)) (fun q => s5 i _ (by omega) (by omega) (by omega) (Nat.succ.inj q)) (nmm i (by omega)).2⟩)) (by
      rw [ev]
      exact bI_keep h6 (ev1F_no (by decide))) (fun q q1 q2 q3 => (t2 q (fun w => q3 (w ▸ (hW _ (by omega)).1)) (fun w => q3 (w ▸ (hW _ (by omega)).2)) q2).trans (fr1 q q1 q2 q3)) (fun j j5 j6 => by rw [ev])
  have hJ : CoP K P I1 (e (rest.length + 2)) (e (rest.length + 2) + 1) (e rest.length) (e rest.length + 1) (e (rest.length + 1)) (e (rest.length + 1) + 1) z.1 u.2 z.2 := ⟨hA, ⟨hj1 ▸ hRl, hRr⟩, hB.1.1, hj3⟩
  have ew : ev1 (scC I s wi vv a y) 7 A B C nt (z :: u :: rest) = (z.1, cmbL A u.2 z.2) :: rest := ev1_c (by decide) (by decide) (by decide) (by decide)
  refine VW.aload_n (pc' := 1) d_Evaluator_step_0 rfl rfl ?_
  refine VW.gP (ci := 4) (T := T4) (N := 13) (k := 2) (k' := 2) (pc' := 4) d_Evaluator_step_1 rfl lk_Evaluator_68 in4 rfl rfl rfl rfl (by first | exact hQ.k | exact s1 | exact s3 | exact sd.2.1 | exact hQ.k2 | exact hQ.k3 | exact hQ.k4 | exact hQ.k5 | exact hQ.k6 | exact hQ.k8 | exact hQ.k12 | exact hG.1 | exact hRw.1) (by first | exact v0 | exact s2 | exact sd.1 | exact hQ.p2 | exact hQ.p3 | exact hQ.p4 | exact hQ.p5 | exact hQ.p6 | exact hQ.p8 | exact hQ.p12 | rfl) ?_
  refine VW.iload_n (pc' := 5) d_Evaluator_step_4 rfl rfl ?_
  refine VW.ild (pc' := 6) d_Evaluator_step_5 rfl (by first | exact hQ.k | exact s1 | exact s3 | exact sd.2.1 | exact hQ.k2 | exact hQ.k3 | exact hQ.k4 | exact hQ.k5 | exact hQ.k6 | exact hQ.k8 | exact hQ.k12 | exact hG.1 | exact hRw.1) (by omega) (by omega) (eO) ?_
  refine VW.istore (pc' := 8) d_Evaluator_step_6 rfl rfl ?_
  refine VW.iload (pc' := 10) d_Evaluator_step_8 rfl rfl ?_
  refine VW.if_ne (tgt := 17) (pc' := 13) d_Evaluator_step_10 rfl rfl (fun c10 => ?_) (fun c10 => ?_)
  case refine_2 => exact absurd c10 (by decide)
  refine VW.iload (pc' := 19) d_Evaluator_step_17 rfl rfl ?_
  refine VW.iconst (pc' := 20) d_Evaluator_step_19 rfl (by decide) ?_
  refine VW.icmp_eq (tgt := 30) (pc' := 23) d_Evaluator_step_20 rfl rfl (fun c20 => ?_) (fun c20 => ?_)
  case refine_1 => exact absurd c20 (by decide)
  refine VW.iload (pc' := 25) d_Evaluator_step_23 rfl rfl ?_
  refine VW.bipush (pc' := 27) d_Evaluator_step_25 rfl (by decide) ?_
  refine VW.icmp_ne (tgt := 34) (pc' := 30) d_Evaluator_step_27 rfl rfl (fun c27 => ?_) (fun c27 => ?_)
  case refine_1 => exact absurd c27 (by decide)
  refine VW.iconst (pc' := 31) d_Evaluator_step_30 rfl (by decide) ?_
  refine VW.goto (pc' := 35) d_Evaluator_step_31 rfl ?_
  refine VW.istore (pc' := 37) d_Evaluator_step_35 rfl rfl ?_
  refine VW.aload_n (pc' := 38) d_Evaluator_step_37 rfl rfl ?_
  refine VW.gI (ci := 1) (T := T1) (N := 7) (k := 5) (k' := 5) (pc' := 41) d_Evaluator_step_38 rfl lk_Evaluator_33 in1 rfl rfl rfl rfl (by first | exact hQ.k | exact s1 | exact s3 | exact sd.2.1 | exact hQ.k2 | exact hQ.k3 | exact hQ.k4 | exact hQ.k5 | exact hQ.k6 | exact hQ.k8 | exact hQ.k12 | exact hG.1 | exact hRw.1) (h5) ?_
  refine VW.iload (pc' := 43) d_Evaluator_step_41 rfl rfl ?_
  refine VW.icmp_lt (tgt := 58) (pc' := 46) d_Evaluator_step_43 rfl rfl (fun c43 => ?_) (fun c43 => ?_)
  case refine_1 => exact absurd c43 (by omega)
  refine VW.aload_n (pc' := 47) d_Evaluator_step_46 rfl rfl ?_
  refine VW.gI (ci := 1) (T := T1) (N := 7) (k := 5) (k' := 5) (pc' := 50) d_Evaluator_step_47 rfl lk_Evaluator_33 in1 rfl rfl rfl rfl (by first | exact hQ.k | exact s1 | exact s3 | exact sd.2.1 | exact hQ.k2 | exact hQ.k3 | exact hQ.k4 | exact hQ.k5 | exact hQ.k6 | exact hQ.k8 | exact hQ.k12 | exact hG.1 | exact hRw.1) (h5) ?_
  refine VW.aload_n (pc' := 51) d_Evaluator_step_50 rfl rfl ?_
  refine VW.gP (ci := 1) (T := T1) (N := 7) (k := 1) (k' := 1) (pc' := 54) d_Evaluator_step_51 rfl lk_Evaluator_11 in1 rfl rfl rfl rfl (by first | exact hQ.k | exact s1 | exact s3 | exact sd.2.1 | exact hQ.k2 | exact hQ.k3 | exact hQ.k4 | exact hQ.k5 | exact hQ.k6 | exact hQ.k8 | exact hQ.k12 | exact hG.1 | exact hRw.1) (by first | exact v0 | exact s2 | exact sd.1 | exact hQ.p2 | exact hQ.p3 | exact hQ.p4 | exact hQ.p5 | exact hQ.p6 | exact hQ.p8 | exact hQ.p12 | rfl) ?_
  refine VW.alen (pc' := 55) d_Evaluator_step_54 rfl (by first | exact hQ.k | exact s1 | exact s3 | exact sd.2.1 | exact hQ.k2 | exact hQ.k3 | exact hQ.k4 | exact hQ.k5 | exact hQ.k6 | exact hQ.k8 | exact hQ.k12 | exact hG.1 | exact hRw.1) (by simp) (by omega) ?_
  refine VW.icmp_lt (tgt := 64) (pc' := 58) d_Evaluator_step_55 rfl rfl (fun c55 => ?_) (fun c55 => ?_)
  case refine_2 => exact absurd c55 (by omega)
  refine VW.aload_n (pc' := 65) d_Evaluator_step_64 rfl rfl ?_
  refine VW.gP (ci := 1) (T := T1) (N := 7) (k := 1) (k' := 1) (pc' := 68) d_Evaluator_step_65 rfl lk_Evaluator_11 in1 rfl rfl rfl rfl (by first | exact hQ.k | exact s1 | exact s3 | exact sd.2.1 | exact hQ.k2 | exact hQ.k3 | exact hQ.k4 | exact hQ.k5 | exact hQ.k6 | exact hQ.k8 | exact hQ.k12 | exact hG.1 | exact hRw.1) (by first | exact v0 | exact s2 | exact sd.1 | exact hQ.p2 | exact hQ.p3 | exact hQ.p4 | exact hQ.p5 | exact hQ.p6 | exact hQ.p8 | exact hQ.p12 | rfl) ?_
  refine VW.aload_n (pc' := 69) d_Evaluator_step_68 rfl rfl ?_
  refine VW.gI (ci := 1) (T := T1) (N := 7) (k := 5) (k' := 5) (pc' := 72) d_Evaluator_step_69 rfl lk_Evaluator_33 in1 rfl rfl rfl rfl (by first | exact hQ.k | exact s1 | exact s3 | exact sd.2.1 | exact hQ.k2 | exact hQ.k3 | exact hQ.k4 | exact hQ.k5 | exact hQ.k6 | exact hQ.k8 | exact hQ.k12 | exact hG.1 | exact hRw.1) (h5) ?_
  refine VW.rld (pc' := 73) d_Evaluator_step_72 rfl (by first | exact hQ.k | exact s1 | exact s3 | exact sd.2.1 | exact hQ.k2 | exact hQ.k3 | exact hQ.k4 | exact hQ.k5 | exact hQ.k6 | exact hQ.k8 | exact hQ.k12 | exact hG.1 | exact hRw.1) (by omega) (by omega) (by first | exact v0 | exact s2 | exact sd.1 | exact hQ.p2 | exact hQ.p3 | exact hQ.p4 | exact hQ.p5 | exact hQ.p6 | exact hQ.p8 | exact hQ.p12 | rfl) ?_
  refine VW.astore (pc' := 75) d_Evaluator_step_73 rfl rfl ?_
  refine VW.aload (pc' := 77) d_Evaluator_step_75 rfl rfl ?_
  refine VW.aload_n (pc' := 78) d_Evaluator_step_77 rfl rfl ?_
  refine VW.gP (ci := 4) (T := T4) (N := 13) (k := 4) (k' := 4) (pc' := 81) d_Evaluator_step_78 rfl lk_Evaluator_71 in4 rfl rfl rfl rfl (by first | exact hQ.k | exact s1 | exact s3 | exact sd.2.1 | exact hQ.k2 | exact hQ.k3 | exact hQ.k4 | exact hQ.k5 | exact hQ.k6 | exact hQ.k8 | exact hQ.k12 | exact hG.1 | exact hRw.1) (by first | exact v0 | exact s2 | exact sd.1 | exact hQ.p2 | exact hQ.p3 | exact hQ.p4 | exact hQ.p5 | exact hQ.p6 | exact hQ.p8 | exact hQ.p12 | rfl) ?_
  refine VW.iload_n (pc' := 82) d_Evaluator_step_81 rfl rfl ?_
  refine VW.ild (pc' := 83) d_Evaluator_step_82 rfl (by first | exact hQ.k | exact s1 | exact s3 | exact sd.2.1 | exact hQ.k2 | exact hQ.k3 | exact hQ.k4 | exact hQ.k5 | exact hQ.k6 | exact hQ.k8 | exact hQ.k12 | exact hG.1 | exact hRw.1) (by omega) (by omega) (eW) ?_
  refine VW.cV (ci := 5) (T := T5) (N := 3) (pc' := 86) d_Evaluator_step_83 rfl mv_Relation_reset lk_Evaluator_57 rfl (by first | exact hQ.k | exact s1 | exact s3 | exact sd.2.1 | exact hQ.k2 | exact hQ.k3 | exact hQ.k4 | exact hQ.k5 | exact hQ.k6 | exact hQ.k8 | exact hQ.k12 | exact hG.1 | exact hRw.1) rfl rfl rfl (Nat.le_refl _) (Nat.le_refl _) (sp_Relation_reset sd.2) rfl rfl ?_
  rw [hI1]
  refine VW.iload (pc' := 88) d_Evaluator_step_86 rfl rfl ?_
  refine VW.if_ne (tgt := 109) (pc' := 91) d_Evaluator_step_88 rfl rfl (fun _ => ?_) (fun c88 => absurd c88 (by decide))
  refine VW.iload (pc' := 111) d_Evaluator_step_109 rfl rfl ?_
  refine VW.iconst (pc' := 112) d_Evaluator_step_111 rfl (by decide) ?_
  refine VW.icmp_ne (tgt := 137) (pc' := 115) d_Evaluator_step_112 rfl rfl (fun _ => ?_) (fun c112 => absurd c112 (by decide))
  refine VW.iload (pc' := 139) d_Evaluator_step_137 rfl rfl ?_
  refine VW.iconst (pc' := 140) d_Evaluator_step_139 rfl (by decide) ?_
  refine VW.icmp_ne (tgt := 176) (pc' := 143) d_Evaluator_step_140 rfl rfl (fun c140 => ?_) (fun c140 => ?_)
  case refine_2 => exact absurd c140 (by decide)
  refine VW.aload (pc' := 178) d_Evaluator_step_176 rfl rfl ?_
  refine VW.aload_n (pc' := 179) d_Evaluator_step_178 rfl rfl ?_
  refine VW.gP (ci := 1) (T := T1) (N := 7) (k := 1) (k' := 1) (pc' := 182) d_Evaluator_step_179 rfl lk_Evaluator_11 in1 rfl rfl rfl rfl (by first | exact hQ.k | exact s1 | exact s3 | exact sd.2.1 | exact hQ.k2 | exact hQ.k3 | exact hQ.k4 | exact hQ.k5 | exact hQ.k6 | exact hQ.k8 | exact hQ.k12 | exact hG.1 | exact hRw.1) (by first | exact v0 | exact s2 | exact sd.1 | exact hQ.p2 | exact hQ.p3 | exact hQ.p4 | exact hQ.p5 | exact hQ.p6 | exact hQ.p8 | exact hQ.p12 | rfl) ?_
  refine VW.aload_n (pc' := 183) d_Evaluator_step_182 rfl rfl ?_
  refine VW.gI (ci := 1) (T := T1) (N := 7) (k := 5) (k' := 5) (pc' := 186) d_Evaluator_step_183 rfl lk_Evaluator_33 in1 rfl rfl rfl rfl (by first | exact hQ.k | exact s1 | exact s3 | exact sd.2.1 | exact hQ.k2 | exact hQ.k3 | exact hQ.k4 | exact hQ.k5 | exact hQ.k6 | exact hQ.k8 | exact hQ.k12 | exact hG.1 | exact hRw.1) (f5) ?_
  refine VW.iconst (pc' := 187) d_Evaluator_step_186 rfl (by decide) ?_
  refine VW.isub (pc' := 188) d_Evaluator_step_187 rfl (by omega) ?_
  refine VW.rld (pc' := 189) d_Evaluator_step_188 rfl (by first | exact hQ.k | exact s1 | exact s3 | exact sd.2.1 | exact hQ.k2 | exact hQ.k3 | exact hQ.k4 | exact hQ.k5 | exact hQ.k6 | exact hQ.k8 | exact hQ.k12 | exact hG.1 | exact hRw.1) (by omega) (by omega) (p2) ?_
  refine VW.aload_n (pc' := 190) d_Evaluator_step_189 rfl rfl ?_
  refine VW.gP (ci := 1) (T := T1) (N := 7) (k := 1) (k' := 1) (pc' := 193) d_Evaluator_step_190 rfl lk_Evaluator_11 in1 rfl rfl rfl rfl (by first | exact hQ.k | exact s1 | exact s3 | exact sd.2.1 | exact hQ.k2 | exact hQ.k3 | exact hQ.k4 | exact hQ.k5 | exact hQ.k6 | exact hQ.k8 | exact hQ.k12 | exact hG.1 | exact hRw.1) (by first | exact v0 | exact s2 | exact sd.1 | exact hQ.p2 | exact hQ.p3 | exact hQ.p4 | exact hQ.p5 | exact hQ.p6 | exact hQ.p8 | exact hQ.p12 | rfl) ?_
  refine VW.aload_n (pc' := 194) d_Evaluator_step_193 rfl rfl ?_
  refine VW.gI (ci := 1) (T := T1) (N := 7) (k := 5) (k' := 5) (pc' := 197) d_Evaluator_step_194 rfl lk_Evaluator_33 in1 rfl rfl rfl rfl (by first | exact hQ.k | exact s1 | exact s3 | exact sd.2.1 | exact hQ.k2 | exact hQ.k3 | exact hQ.k4 | exact hQ.k5 | exact hQ.k6 | exact hQ.k8 | exact hQ.k12 | exact hG.1 | exact hRw.1) (f5) ?_
  refine VW.iconst (pc' := 198) d_Evaluator_step_197 rfl (by decide) ?_
  refine VW.isub (pc' := 199) d_Evaluator_step_198 rfl (by omega) ?_
  refine VW.rld (pc' := 200) d_Evaluator_step_199 rfl (by first | exact hQ.k | exact s1 | exact s3 | exact sd.2.1 | exact hQ.k2 | exact hQ.k3 | exact hQ.k4 | exact hQ.k5 | exact hQ.k6 | exact hQ.k8 | exact hQ.k12 | exact hG.1 | exact hRw.1) (by omega) (by omega) (p1) ?_
  refine VW.aload_n (pc' := 201) d_Evaluator_step_200 rfl rfl ?_
  refine VW.iload_n (pc' := 202) d_Evaluator_step_201 rfl rfl ?_
  refine VW.iconst (pc' := 203) d_Evaluator_step_202 rfl (by decide) ?_
  refine VW.cV (ci := 4) (T := T4) (N := 13) (pc' := 206) d_Evaluator_step_203 rfl mv_Query_parameter lk_Evaluator_74 rfl (by first | exact hQ.k | exact s1 | exact s3 | exact sd.2.1 | exact hQ.k2 | exact hQ.k3 | exact hQ.k4 | exact hQ.k5 | exact hQ.k6 | exact hQ.k8 | exact hQ.k12 | exact hG.1 | exact hRw.1) rfl rfl rfl (Nat.le_refl _) (Nat.le_refl _) (sp_Query_parameter hQ hx (by decide)) rfl rfl ?_
  rw [eA1]
  refine VW.cSu (pc' := 209) d_Evaluator_step_206 rfl ms_Evaluator_combineInto lk_Evaluator_90 rfl rfl rfl (Nat.le_refl _) (Nat.le_refl _) (sp_Evaluator_combineInto hJ (r0 _ hj2)) rfl rfl (fun T2 h2 => ?_)
  refine VW.pick [0, 6, 7] ?_
  exact fin T2 (_, _) ⟨h2.1, fun q q1 q2 _ => h2.2 q q1 q2⟩ ew
theorem sp_Evaluator_step {v sk s od sp mm wi ck dt tg ru vv r a qn : Nat} {e : Nat → Nat} {Wn : Nat → Prop} {st : STK} {x y op A B C nt W : Int} (hw : SpW K P I v sk s od sp mm wi ck dt tg ru vv r a qn e Wn) (hx : 0 ≤ x ∧ x < 12) (eO : I (qn + 3) x = op) (eA : I (qn + 4) (x * 4 + 0) = A) (eB : I (qn + 4) (x * 4 + 1) = B) (eC : I (qn + 4) (x * 4 + 2) = C) (eN : I (qn + 4) (x * 4 + 3) = nt) (eW : I (qn + 5) x = W) (hB : stB st) (hk : StkC I e st) (h5 : I v 5 = st.length) (hl : st.length ≤ 3) (h6 : I v 6 = 0 ∨ I v 6 = 1) (hok : okC op A B C W st) (hsc : op = 0 → W = I wi A ∧ 0 ≤ W ∧ W ≤ 4) (hop : op = 0 ∨ (op = 1 ∨ op = 2 ∨ op = 3 ∨ op = 5 ∨ op = 6) ∨ op = 4 ∨ op = 7) : Sp m_Evaluator_step false (rmv 6 240) (fun r' K' P' J' I' => r' = .inl none ∧ K' = K ∧ J' = J ∧ StR K P J I v sk mm e Wn (ev1 (scC I s wi vv a y) op A B C nt st) (ev1F op A B st) P' I' : PQ) K P J I [vR (some v), vR (some qn), vI x, vR (some r), vI y] := by
  rcases hop with h | h | h | h
  · exact st_scan hw hx eO eA eB eC eN eW hB hk h5 hl h6 hok hsc h
  · exact st_one hw hx eO eA eB eC eN eW hB hk h5 hl h6 hok hsc h
  · exact st_join hw hx eO eA eB eC eN eW hB hk h5 hl h6 hok hsc h
  · exact st_set hw hx eO eA eB eC eN eW hB hk h5 hl h6 hok hsc h
end
