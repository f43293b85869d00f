section
variable {K : KT} {P : PT} {J I : IT}
theorem StkC.len {e : Nat → Nat} {z : Nat × List (List Int)} {rest : STK} (h : StkC I e (z :: rest)) : RelR I (e rest.length) (e rest.length + 1) z.1 z.2 := h.1
theorem ev1_ch {sc : Int → Nat × List (List Int)} {op A B C nt : Int} {z : Nat × List (List Int)} {rest : STK} (h : op = 1 ∨ op = 2 ∨ op = 3 ∨ op = 5 ∨ op = 6) : ev1 sc op A B C nt (z :: rest) = chL op A B C nt z.1 z.2 :: rest := by
  rcases h with h | h | h | h | h <;> subst h
  · exact ev1_f (by decide) (by decide)
  · exact ev1_f (by decide) (by decide)
  · exact ev1_f (by decide) (by decide)
  · exact (ev1_k rfl).trans (by unfold chL; rw [if_neg (by decide), if_pos rfl])
  · exact (ev1_g rfl).trans (by unfold chL; rw [if_neg (by decide), if_neg (by decide)])
theorem ev1F_no {op A B : Int} {st : STK} (h : op ≠ 3) : ¬ ev1F op A B st := fun ⟨_, _, _, _, _, z⟩ => h z.1
theorem ev1F_top {op A B : Int} {z : Nat × List (List Int)} {rest : STK} : ev1F op A B (z :: rest) = ∃ r ∈ z.2, stayF op A B r := propext ⟨fun ⟨_, _, h1, h2⟩ => by
  have := List.cons.inj h1
  rw [this.1]; exact h2, fun h => ⟨z, rest, rfl, h⟩⟩
theorem bI_keep {x : Int} {F : Prop} (h : x = 0 ∨ x = 1) (hF : ¬ F) : x = bI (x = 1 ∨ F) := by
  rcases h with z | z
  · rw [z]; exact (bI0 (fun y => y.elim (fun y => by omega) hF)).symm
  · rw [z]; exact (bI1 (Or.inl rfl)).symm
/-- the world of a step -/
def SpW (K : KT) (P : PT) (I : IT) (v sk s od sp mm wi ck dt tg ru vv r a qn : Nat) (e : Nat → Nat) (Wn : Nat → Prop) : Prop := (StW K P v sk e ∧ (∀ i : Nat, i < 4 → Wn (e i) ∧ Wn (e i + 1)) ∧ (∀ q, Wn q → q ≠ a ∧ q ≠ vv ∧ q ≠ wi)) ∧ EvA K P v s od sp mm ∧ ScW K P s wi ck dt tg ru vv ∧ RwW K P r a ∧ QuW K P qn ∧ (0 ≤ I s 6 ∧ I s 6 ≤ 12) ∧ ∀ j : Int, 0 ≤ j → j < I s 6 → 0 ≤ I vv (j * 5 + 2) ∧ I vv (j * 5 + 2) < 4
theorem st_scan {v sk s od sp mm wi ck dt tg ru vv r a qn : Nat} {e : Nat → Nat} {Wn : Nat → Prop} {st : STK} {x y op A B C nt W : Int} (hw : SpW K P I v sk s od sp mm wi ck dt tg ru vv r a qn e Wn) (hx : 0 ≤ x ∧ x < 12) (eO : I (qn + 3) x = op) (eA : I (qn + 4) (x * 4 + 0) = A) (eB : I (qn + 4) (x * 4 + 1) = B) (eC : I (qn + 4) (x * 4 + 2) = C) (eN : I (qn + 4) (x * 4 + 3) = nt) (eW : I (qn + 5) x = W) (hB : stB st) (hk : StkC I e st) (h5 : I v 5 = st.length) (hl : st.length ≤ 3) (h6 : I v 6 = 0 ∨ I v 6 = 1) (hok : okC op A B C W st) (hsc : op = 0 → W = I wi A ∧ 0 ≤ W ∧ W ≤ 4) (h0 : op = 0) : Sp m_Evaluator_step false (rmv 6 240) (fun r' K' P' J' I' => r' = .inl none ∧ K' = K ∧ J' = J ∧ StR K P J I v sk mm e Wn (ev1 (scC I s wi vv a y) op A B C nt st) (ev1F op A B st) P' I' : PQ) K P J I [vR (some v), vR (some qn), vI x, vR (some r), vI y] := by
  refine Sp.ofV (by decide) (Or.inr rfl) rfl ?_
  obtain ⟨⟨hS, hW, hWn⟩, ⟨v0, ⟨v2, v2k⟩, ⟨v3, v3k⟩, v4, v4k⟩, hG, hRw, hQ, hc, hd⟩ := id hw
  obtain ⟨s1, s2, s3, s4, s5⟩ := id hS
  have sd := s4 st.length (by omega)
  have ne1 : ∀ i : Nat, i < 4 → e i ≠ v := fun i hi z => by have := (s4 i hi).2.1.symm.trans (z ▸ s1); cases this
  have ne2 : ∀ i : Nat, i < 4 → e i + 1 ≠ v := fun i hi z => by have := (s4 i hi).2.2.2.symm.trans (z ▸ s1); cases this
  have ne3 : ∀ i j : Nat, i < 4 → j < 4 → e i + 1 ≠ e j := fun i j hi hj z => by have := (s4 i hi).2.2.2.symm.trans (z ▸ (s4 j hj).2.1); cases this
  have arr : ∀ {q m : Nat}, K q = some (100, m) → q ≠ e st.length := fun h z => by have := h.symm.trans (z ▸ sd.2.1); cases this
  have nS : s ≠ e st.length := fun z => by have := hG.1.symm.trans (z ▸ sd.2.1); cases this
  -- behind the reset
  have i1 : ∀ {q : Nat}, q ≠ e st.length → up2 (up2 I (e st.length) 1 0) (e st.length) 2 W q = I q := fun h => funext (fun z => (up2_o _ _ _ _ h).trans (up2_o _ _ _ _ h))
  generalize hI1 : up2 (up2 I (e st.length) 1 0) (e st.length) 2 W = I1 at i1
  have r0 : ∀ w : Nat, W = w → RelR I1 (e st.length) (e st.length + 1) w [] := fun w h => by
    rw [← hI1]
    exact ⟨(up2_eq _ _ _ _).trans h, (up2_k _ _ _ _ (by decide)).trans (up2_eq _ _ _ _), rfl⟩
  have iv : I1 v = I v := i1 (ne1 _ (by omega)).symm
  have f5 : I1 v 5 = st.length := by rw [iv]; exact h5
  have fr1 : ∀ q, q ≠ v → q ≠ mm → ¬ Wn q → I1 q = I q := fun q _ _ q3 => i1 (fun z => q3 (z ▸ (hW _ (by omega)).1))
  have keep : ∀ (i : Nat) (w : Nat) (M : List (List Int)), i < st.length → RelR I (e i) (e i + 1) w M → RelR I1 (e i) (e i + 1) w M := fun i w M hi h => h.of (i1 (s5 i _ (by omega) (by omega) (by omega))) (i1 (arr (s4 i (by omega)).2.2.2))
  have keepS : ∀ rest : STK, rest.length < st.length + 1 → StkC I e rest → StkC I1 e rest := fun rest hr h => StkC.of rest h (fun i hi => ⟨rfl, i1 (s5 i _ (by omega) (by omega) (by omega)), i1 (arr (s4 i (by omega)).2.2.2)⟩)
  subst h0
  have hA := hok.1 rfl
  obtain ⟨w1, w2, w3⟩ := hsc rfl
  have wN : W = (W.toNat : Int) := (Int.toNat_of_nonneg w2).symm
  have is : I1 s = I s := i1 nS
  have ivv : I1 vv = I vv := i1 (arr hG.2.2.2.2.2.2.2)
  have ia : I1 a = I a := i1 (arr hRw.2.2)
  have eA1 : I1 (qn + 4) (x * 4 + 0) = A := by rw [i1 (arr hQ.k3)]; exact eA
  have sceq : ∀ n : Nat, scanC I1 s vv a y A W.toNat n = scanC I s vv a y A W.toNat n := by
    intro n
    induction n with
    | zero => rfl
    | succ n ih =>
      have e1 : scPl I1 s vv a y A n = scPl I s vv a y A n := by
        unfold scPl scSee scHid
        rw [is, ivv, ia]
      have e2 : rowAt I1 a ((A * 8 + n) * 4) W.toNat = rowAt I a ((A * 8 + n) * 4) W.toNat := rowAt_congr (fun c _ _ => by rw [ia])
      show (if bI (scPl I1 s vv a y A n) = 1 then _ else _) = (if bI (scPl I s vv a y A n) = 1 then _ else _)
      rw [e1, e2, ih]
  have nW := hWn _ (hW st.length (by omega)).2
  have fin := fun (T : IT) (hT : RelR T (e st.length) (e st.length + 1) W.toNat (scanC I1 s vv a y A W.toNat 8) ∧ ∀ q, q ≠ e st.length → q ≠ e st.length + 1 → T q = I1 q) => by
    have ev : T v = I v := (hT.2 v (ne1 _ (by omega)).symm (ne2 _ (by omega)).symm).trans iv
    exact st_tail (J := J) (I := I) (T := T) (v := v) (sk := sk) (mm := mm) (d := st.length) (o := 0) (F := ev1F 0 A B st) hS hW ⟨by omega, by omega⟩ (ev1_0 (sc := scC I s wi vv a y) (A := A) (B := B) (C := C) (nt := nt) (st := st) rfl) (by omega) (by rw [ev]; exact h5) (by
      have q := hT.1
      rw [sceq] at q
      show RelR T _ _ (I wi A).toNat (scanC I s vv a y A (I wi A).toNat 8)
      rw [← w1]; exact q) (StkC.of st (keepS st (by omega) hk) (fun i hi => ⟨rfl, hT.2 _ (s5 i _ (by omega) (by omega) (by omega)) (fun z => ne3 _ _ (by omega) (by omega) z.symm), hT.2 _ (ne3 _ _ (by omega) (by omega)) (fun z => s5 i _ (by omega) (by omega) (by omega) (Nat.succ.inj z))⟩)) (by
      rw [ev]
      exact bI_keep h6 (ev1F_no (by decide))) (fun q q1 q2 q3 => (hT.2 q (fun z => q3 (z ▸ (hW _ (by omega)).1)) (fun z => q3 (z ▸ (hW _ (by omega)).2))).trans (fr1 q q1 q2 q3)) (fun j _ _ => by rw [ev])
  refine VW.aload_n (pc' := 1) d_Evaluator_step_0 rfl rfl ?_
  refine VW.gP (ci := 4) (T := T4) (N := 13) (k := 2) (k' := 2) (pc' := 4) d_Evaluator_step_1 rfl lk_Evaluator_68 in4 rfl rfl rfl rfl (by first | exact hQ.k | exact s1 | exact s3 | exact sd.2.1 | exact hQ.k2 | exact hQ.k3 | exact hQ.k4 | exact hQ.k5 | exact hQ.k6 | exact hQ.k8 | exact hQ.k12 | exact hG.1 | exact hRw.1) (by first | exact v0 | exact s2 | exact sd.1 | exact hQ.p2 | exact hQ.p3 | exact hQ.p4 | exact hQ.p5 | exact hQ.p6 | exact hQ.p8 | exact hQ.p12 | rfl) ?_
  refine VW.iload_n (pc' := 5) d_Evaluator_step_4 rfl rfl ?_
  refine VW.ild (pc' := 6) d_Evaluator_step_5 rfl (by first | exact hQ.k | exact s1 | exact s3 | exact sd.2.1 | exact hQ.k2 | exact hQ.k3 | exact hQ.k4 | exact hQ.k5 | exact hQ.k6 | exact hQ.k8 | exact hQ.k12 | exact hG.1 | exact hRw.1) (by omega) (by omega) (eO) ?_
  refine VW.istore (pc' := 8) d_Evaluator_step_6 rfl rfl ?_
  refine VW.iload (pc' := 10) d_Evaluator_step_8 rfl rfl ?_
  refine VW.if_ne (tgt := 17) (pc' := 13) d_Evaluator_step_10 rfl rfl (fun c10 => ?_) (fun c10 => ?_)
  case refine_1 => exact absurd c10 (by decide)
  refine VW.iconst (pc' := 14) d_Evaluator_step_13 rfl (by decide) ?_
  refine VW.goto (pc' := 35) d_Evaluator_step_14 rfl ?_
  refine VW.istore (pc' := 37) d_Evaluator_step_35 rfl rfl ?_
  refine VW.aload_n (pc' := 38) d_Evaluator_step_37 rfl rfl ?_
  refine VW.gI (ci := 1) (T := T1) (N := 7) (k := 5) (k' := 5) (pc' := 41) d_Evaluator_step_38 rfl lk_Evaluator_33 in1 rfl rfl rfl rfl (by first | exact hQ.k | exact s1 | exact s3 | exact sd.2.1 | exact hQ.k2 | exact hQ.k3 | exact hQ.k4 | exact hQ.k5 | exact hQ.k6 | exact hQ.k8 | exact hQ.k12 | exact hG.1 | exact hRw.1) (h5) ?_
  refine VW.iload (pc' := 43) d_Evaluator_step_41 rfl rfl ?_
  refine VW.icmp_lt (tgt := 58) (pc' := 46) d_Evaluator_step_43 rfl rfl (fun c43 => ?_) (fun c43 => ?_)
  case refine_1 => exact absurd c43 (by omega)
  refine VW.aload_n (pc' := 47) d_Evaluator_step_46 rfl rfl ?_
  refine VW.gI (ci := 1) (T := T1) (N := 7) (k := 5) (k' := 5) (pc' := 50) d_Evaluator_step_47 rfl lk_Evaluator_33 in1 rfl rfl rfl rfl (by first | exact hQ.k | exact s1 | exact s3 | exact sd.2.1 | exact hQ.k2 | exact hQ.k3 | exact hQ.k4 | exact hQ.k5 | exact hQ.k6 | exact hQ.k8 | exact hQ.k12 | exact hG.1 | exact hRw.1) (h5) ?_
  refine VW.aload_n (pc' := 51) d_Evaluator_step_50 rfl rfl ?_
  refine VW.gP (ci := 1) (T := T1) (N := 7) (k := 1) (k' := 1) (pc' := 54) d_Evaluator_step_51 rfl lk_Evaluator_11 in1 rfl rfl rfl rfl (by first | exact hQ.k | exact s1 | exact s3 | exact sd.2.1 | exact hQ.k2 | exact hQ.k3 | exact hQ.k4 | exact hQ.k5 | exact hQ.k6 | exact hQ.k8 | exact hQ.k12 | exact hG.1 | exact hRw.1) (by first | exact v0 | exact s2 | exact sd.1 | exact hQ.p2 | exact hQ.p3 | exact hQ.p4 | exact hQ.p5 | exact hQ.p6 | exact hQ.p8 | exact hQ.p12 | rfl) ?_
  refine VW.alen (pc' := 55) d_Evaluator_step_54 rfl (by first | exact hQ.k | exact s1 | exact s3 | exact sd.2.1 | exact hQ.k2 | exact hQ.k3 | exact hQ.k4 | exact hQ.k5 | exact hQ.k6 | exact hQ.k8 | exact hQ.k12 | exact hG.1 | exact hRw.1) (by simp) (by omega) ?_
  refine VW.icmp_lt (tgt := 64) (pc' := 58) d_Evaluator_step_55 rfl rfl (fun c55 => ?_) (fun c55 => ?_)
  case refine_2 => exact absurd c55 (by omega)
  refine VW.aload_n (pc' := 65) d_Evaluator_step_64 rfl rfl ?_
  refine VW.gP (ci := 1) (T := T1) (N := 7) (k := 1) (k' := 1) (pc' := 68) d_Evaluator_step_65 rfl lk_Evaluator_11 in1 rfl rfl rfl rfl (by first | exact hQ.k | exact s1 | exact s3 | exact sd.2.1 | exact hQ.k2 | exact hQ.k3 | exact hQ.k4 | exact hQ.k5 | exact hQ.k6 | exact hQ.k8 | exact hQ.k12 | exact hG.1 | exact hRw.1) (by first | exact v0 | exact s2 | exact sd.1 | exact hQ.p2 | exact hQ.p3 | exact hQ.p4 | exact hQ.p5 | exact hQ.p6 | exact hQ.p8 | exact hQ.p12 | rfl) ?_
  refine VW.aload_n (pc' := 69) d_Evaluator_step_68 rfl rfl ?_
  refine VW.gI (ci := 1) (T := T1) (N := 7) (k := 5) (k' := 5) (pc' := 72) d_Evaluator_step_69 rfl lk_Evaluator_33 in1 rfl rfl rfl rfl (by first | exact hQ.k | exact s1 | exact s3 | exact sd.2.1 | exact hQ.k2 | exact hQ.k3 | exact hQ.k4 | exact hQ.k5 | exact hQ.k6 | exact hQ.k8 | exact hQ.k12 | exact hG.1 | exact hRw.1) (h5) ?_
  refine VW.rld (pc' := 73) d_Evaluator_step_72 rfl (by first | exact hQ.k | exact s1 | exact s3 | exact sd.2.1 | exact hQ.k2 | exact hQ.k3 | exact hQ.k4 | exact hQ.k5 | exact hQ.k6 | exact hQ.k8 | exact hQ.k12 | exact hG.1 | exact hRw.1) (by omega) (by omega) (by first | exact v0 | exact s2 | exact sd.1 | exact hQ.p2 | exact hQ.p3 | exact hQ.p4 | exact hQ.p5 | exact hQ.p6 | exact hQ.p8 | exact hQ.p12 | rfl) ?_
  refine VW.astore (pc' := 75) d_Evaluator_step_73 rfl rfl ?_
  refine VW.aload (pc' := 77) d_Evaluator_step_75 rfl rfl ?_
  refine VW.aload_n (pc' := 78) d_Evaluator_step_77 rfl rfl ?_
  refine VW.gP (ci := 4) (T := T4) (N := 13) (k := 4) (k' := 4) (pc' := 81) d_Evaluator_step_78 rfl lk_Evaluator_71 in4 rfl rfl rfl rfl (by first | exact hQ.k | exact s1 | exact s3 | exact sd.2.1 | exact hQ.k2 | exact hQ.k3 | exact hQ.k4 | exact hQ.k5 | exact hQ.k6 | exact hQ.k8 | exact hQ.k12 | exact hG.1 | exact hRw.1) (by first | exact v0 | exact s2 | exact sd.1 | exact hQ.p2 | exact hQ.p3 | exact hQ.p4 | exact hQ.p5 | exact hQ.p6 | exact hQ.p8 | exact hQ.p12 | rfl) ?_
  refine VW.iload_n (pc' := 82) d_Evaluator_step_81 rfl rfl ?_
  refine VW.ild (pc' := 83) d_Evaluator_step_82 rfl (by first | exact hQ.k | exact s1 | exact s3 | exact sd.2.1 | exact hQ.k2 | exact hQ.k3 | exact hQ.k4 | exact hQ.k5 | exact hQ.k6 | exact hQ.k8 | exact hQ.k12 | exact hG.1 | exact hRw.1) (by omega) (by omega) (eW) ?_
  refine VW.cV (ci := 5) (T := T5) (N := 3) (pc' := 86) d_Evaluator_step_83 rfl mv_Relation_reset lk_Evaluator_57 rfl (by first | exact hQ.k | exact s1 | exact s3 | exact sd.2.1 | exact hQ.k2 | exact hQ.k3 | exact hQ.k4 | exact hQ.k5 | exact hQ.k6 | exact hQ.k8 | exact hQ.k12 | exact hG.1 | exact hRw.1) rfl rfl rfl (Nat.le_refl _) (Nat.le_refl _) (sp_Relation_reset sd.2) rfl rfl ?_
  rw [hI1]
  refine VW.iload (pc' := 88) d_Evaluator_step_86 rfl rfl ?_
  refine VW.if_ne (tgt := 109) (pc' := 91) d_Evaluator_step_88 rfl rfl (fun c88 => absurd c88 (by decide)) (fun _ => ?_)
  refine VW.aload_n (pc' := 92) d_Evaluator_step_91 rfl rfl ?_
  refine VW.aload (pc' := 94) d_Evaluator_step_92 rfl rfl ?_
  refine VW.aload_n (pc' := 95) d_Evaluator_step_94 rfl rfl ?_
  refine VW.iload_n (pc' := 96) d_Evaluator_step_95 rfl rfl ?_
  refine VW.iconst (pc' := 97) d_Evaluator_step_96 rfl (by decide) ?_
  refine VW.cV (ci := 4) (T := T4) (N := 13) (pc' := 100) d_Evaluator_step_97 rfl mv_Query_parameter lk_Evaluator_74 rfl (by first | exact hQ.k | exact s1 | exact s3 | exact sd.2.1 | exact hQ.k2 | exact hQ.k3 | exact hQ.k4 | exact hQ.k5 | exact hQ.k6 | exact hQ.k8 | exact hQ.k12 | exact hG.1 | exact hRw.1) rfl rfl rfl (Nat.le_refl _) (Nat.le_refl _) (sp_Query_parameter hQ hx (by decide)) rfl rfl ?_
  rw [eA1]
  refine VW.aload_n (pc' := 101) d_Evaluator_step_100 rfl rfl ?_
  refine VW.iload (pc' := 103) d_Evaluator_step_101 rfl rfl ?_
  refine VW.cVu (ci := 1) (T := T1) (N := 7) (pc' := 106) d_Evaluator_step_103 rfl mv_Evaluator_scanInto lk_Evaluator_78 rfl (by first | exact hQ.k | exact s1 | exact s3 | exact sd.2.1 | exact hQ.k2 | exact hQ.k3 | exact hQ.k4 | exact hQ.k5 | exact hQ.k6 | exact hQ.k8 | exact hQ.k12 | exact hG.1 | exact hRw.1) rfl rfl rfl (Nat.le_refl _) (Nat.le_refl _) (sp_Evaluator_scanInto s1 v0 hG hRw sd.2 ⟨nW.1, nW.2.1⟩ (r0 _ wN) (by omega) hA (by rw [is]; exact hc) (by rw [is, ivv]; exact hd)) rfl rfl (fun T2 h2 => ?_)
  refine VW.goto (pc' := 209) d_Evaluator_step_106 rfl ?_
  refine VW.pick [0, 6, 7] ?_
  exact fin T2 h2
end
