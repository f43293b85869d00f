/-! at, analyze: the cases of the law -/
section
variable {K K' : KT} {P P' : PT} {J J' I I' I1 S0 S1 S S' T U X Y : IT} {c cs ns n N N' g g' lq lq' nq lqq tn nv l3 l4 w i k z x t : Nat} {lv mv lv' mv' : Nat → Nat} {q q' : Int} {M : List (List Int)} {L : Nat} {xs : Int → Int} {p1 p2 p3 p4 p5 : Int}
theorem PlR.at5 {a b : Int} (h : PlR X Y) (e : a = b) (hb : 0 ≤ b ∧ b ≤ 8) : PlR (up2 X 1385 t a) (up2 Y 291 t b) := by
  refine ⟨fun y y0 y1 => ?_, fun y y0 y1 => ?_⟩
  · by_cases z : y = (t : Int)
    · rw [z, up2_eq, up2_eq]; exact ⟨e, hb⟩
    · rw [up2_k _ _ _ _ z, up2_k _ _ _ _ z]; exact h.1 y y0 y1
  · rw [up2_o _ _ _ _ (by decide), up2_o _ _ _ _ (by decide)]; exact h.2 y y0 y1
theorem PlR.at6 {a b s : Int} (h : PlR X Y) (e : a = b) (hb : 0 ≤ b ∧ b ≤ 8) : PlR (up2 X 1386 s a) (up2 Y 292 s b) := by
  refine ⟨fun y y0 y1 => ?_, fun y y0 y1 => ?_⟩
  · rw [up2_o _ _ _ _ (by decide), up2_o _ _ _ _ (by decide)]; exact h.1 y y0 y1
  · by_cases z : y = s
    · rw [z, up2_eq, up2_eq]; exact ⟨e, hb⟩
    · rw [up2_k _ _ _ _ z, up2_k _ _ _ _ z]; exact h.2 y y0 y1
theorem dif_rg (h : ER I S n N g lv mv q) (ht : t < 6) (s : Int) : 0 ≤ mDif S t s ∧ mDif S t s ≤ 8 := by
  have r := cntI_rg (mDifG S t s) (S 214 (24 + t)).toNat
  have m := h.st.2.1.1 (t : Int) (by omega) (by omega)
  rw [show (6 : Int) * 4 = 24 from rfl] at m
  unfold mDif
  omega
theorem ksC_eq (h : ER I S n N g lv mv q) (ht : t < 6) (hp : PlR X Y ∧ ∀ y, 0 ≤ Y 292 y ∧ Y 292 y ≤ 8) : ∀ k : Nat, k ≤ 4 → PlR (ksC I X t k) (mAnC S Y t k) ∧ ∀ y, 0 ≤ mAnC S Y t k 292 y ∧ mAnC S Y t k 292 y ≤ 8
  | 0, _ => hp
  | k + 1, hk => by
    obtain ⟨ih, ih2⟩ := ksC_eq h ht hp k (by omega)
    have d := dif_rg h ht k
    have e := dif_eq (t := (t : Int)) (c := (k : Int)) h ⟨by omega, by omega⟩ ⟨by omega, by omega⟩
    refine ⟨?_, fun y => ?_⟩
    · show PlR (up2 (ksC I X t k) 1386 ((t : Int) * 4 + k) (clD I t k)) (up2 (mAnC S Y t k) 292 (4 * (t : Int) + k) (mDif S t k))
      rw [show (t : Int) * 4 + k = 4 * (t : Int) + k by omega]
      exact ih.at6 e d
    · show 0 ≤ up2 (mAnC S Y t k) 292 (4 * (t : Int) + k) (mDif S t k) 292 y ∧ up2 (mAnC S Y t k) 292 (4 * (t : Int) + k) (mDif S t k) 292 y ≤ 8
      by_cases z : y = 4 * (t : Int) + k
      · rw [z, up2_eq]; exact d
      · rw [up2_k _ _ _ _ z]; exact ih2 y
theorem ksT_eq (h : ER I S n N g lv mv q) (hp : PlR X Y ∧ ∀ y, 0 ≤ Y 292 y ∧ Y 292 y ≤ 8) : ∀ m : Nat, m ≤ 6 → PlR (ksT I X m) (mAnT S Y m) ∧ ∀ y, 0 ≤ mAnT S Y m 292 y ∧ mAnT S Y m 292 y ≤ 8
  | 0, _ => hp
  | m + 1, hm => by
    obtain ⟨ih, ih2⟩ := ksT_eq h hp m (by omega)
    have ro := rowsOf_eq (t := (m : Int)) h ⟨by omega, by omega⟩
    have rg := h.st.2.1.1 (m : Int) (by omega) (by omega)
    rw [show (6 : Int) * 4 = 24 from rfl] at rg
    obtain ⟨-, -, -, sw⟩ := sch_of h
    obtain ⟨w1, w2⟩ := sw m (by omega) (by omega)
    show PlR (ksC I (up2 (ksT I X m) 1385 m (rwCnt I 1161 m 8)) m (I 1034 m).toNat) (mAnC S (up2 (mAnT S Y m) 291 m (S 214 (24 + m))) m (S 201 m).toNat) ∧ ∀ y, 0 ≤ mAnC S (up2 (mAnT S Y m) 291 m (S 214 (24 + m))) m (S 201 m).toNat 292 y ∧ mAnC S (up2 (mAnT S Y m) 291 m (S 214 (24 + m))) m (S 201 m).toNat 292 y ≤ 8
    rw [← w1]
    exact ksC_eq h (by omega) ⟨ih.at5 ro rg, fun y => by rw [up2_o _ _ _ _ (by decide)]; exact ih2 y⟩ _ (by omega)
theorem dpI_c {o : Nat} (h : ∀ j, I' (qX j) 9 = I (qX j) 9) (ho : I' o = I o) : ∀ j, dpI I' j o = dpI I j o
  | 0 => ho
  | j + 1 => by
    have ih := dpI_c h ho j
    unfold dpI
    rw [h j]
    split
    · exact ih
    · exact funext (fun y => by
        have e := congrFun ih y
        by_cases z : o = qX j ∧ y = 9
        · rw [z.1, z.2, up2_eq, up2_eq]
        · rw [up2_x z, up2_x z]; exact e)
theorem ana_lr (eg : EgR c K P I S0 n N g lq lv mv q) (qz : QzR c n nq tn S0 q) (qy : QyR K P I S0 nq lqq tn) (vw : VwI K P I S0 nq nv l3 l4) (ev : EvI2 K P I S0 w M) (pn : PnI c I S0 U nq) (rm : RmR c g n nq nv lq lqq lv mv cs ns) (dr : DrR I S0) (hI : ∀ o, ¬ (1385 ≤ o ∧ o ≤ 1386) → I1 o = dpI I nq o) (hS : ∀ (o : Nat) (y : Int), ¬ (291 ≤ o ∧ o ≤ 292) → o ≠ 263 → S1 o y = S0 o y) (hPl : PlR I1 S1) (h292 : ∀ y, 0 ≤ S1 292 y ∧ S1 292 y ≤ 8) (h263 : ∀ y, 0 ≤ y → y < 20 → S1 263 y = 0) : LR (c + 1) K P I1 S1 U (cs + 0) (ns + 0) ∧ S1 100 93 = S0 100 93 := by
  obtain ⟨⟨b1, b2⟩, ⟨z1, z2, z3⟩, d, f, g1⟩ := eg
  have n60 := b1.e.2.1
  obtain ⟨⟨a1, a2⟩, a3, ⟨a4, a5, a6⟩, ⟨a7, a8⟩, a9, a10⟩ := qy
  have n20 := a1.2.1
  have dn : ∀ o, ¬ (1385 ≤ o ∧ o ≤ 1386) → (∀ k, k < nq → o ≠ qX k) → I1 o = I o := fun o h h' => (hI o h).trans (dpI_n nq h')
  have dl : ∀ o, ¬ (1385 ≤ o ∧ o ≤ 1386) → (o < 10000 ∨ 10640 ≤ o) → I1 o = I o := fun o h h' => dn o h (fun k hk => by unfold qX; omega)
  have fu : ∀ o, ¬ (291 ≤ o ∧ o ≤ 292) → o ≠ 263 → o ≠ 100 → S1 o = S0 o := fun o a b _ => funext (fun y => hS o y a b)
  have f1 : ∀ y, y ≠ -1 → y ≠ -2 → S1 100 y = S0 100 y := fun y _ _ => hS 100 y (by decide) (by decide)
  have f2 : ∀ y, S1 100 y = S0 100 y := fun y => hS 100 y (by decide) (by decide)
  have hE : ER I1 S1 n N g lv mv q := b2.same b1.lev b1.g10 (fun o ho => dl o (by unfold erC erI at ho; omega) (by unfold erC erI at ho; omega)) (fun o y ho => hS o y (by unfold erM at ho; omega) (by unfold erM at ho; omega)) ⟨Int.le_refl _, b2.rd.2.2⟩
  have zC : ZI (c + 1) (-1) S1 := z1.same (fun o ho => fu o (by omega) (by omega) (by omega)) (fun y _ => f2 y) (by rw [f2]; omega)
  have h2 : ∀ t, 0 ≤ t → t < S0 100 0 → S1 201 t = S0 201 t := fun t _ _ => hS 201 t (by decide) (by decide)
  have h0 : S0 100 0 ≤ S1 100 0 ∧ S1 100 0 ≤ S0 100 0 + 1 := by rw [f2]; omega
  have hv : ∀ t ρ, rowSeen S1 0 t ρ ↔ rowSeen S0 0 t ρ := fun t ρ => rowSeen_of (f2 8) (fun o x0 x1 => fu o (by omega) (by omega) (by omega))
  have e21 := fu 221 (by decide) (by decide) (by decide)
  have e25 := fu 225 (by decide) (by decide) (by decide)
  have qs : ∀ j, j < nq → QuSame I1 I (qX j) 12 := fun j hj => by
    have e0 : I1 (qX j) 0 = I (qX j) 0 := by rw [hI _ (by unfold qX; omega)]; exact dpI_k (Or.inl (by decide)) nq
    have es : ∀ a, 1 ≤ a → a < 32 → I1 (qX j + a) = I (qX j + a) := fun a x0 x1 => dn _ (by unfold qX; omega) (fun k hk => by unfold qX; omega)
    unfold QuSame
    rw [es 3 (by decide) (by decide), es 4 (by decide) (by decide), es 5 (by decide) (by decide), es 6 (by decide) (by decide), es 7 (by decide) (by decide)]
    exact ⟨e0, fun k _ => ⟨⟨rfl, rfl, rfl, rfl⟩, fun _ _ _ => rfl⟩⟩
  have qn : ∀ o, qX nq ≤ o → o < 12000 → I1 o = I o := fun o x0 x1 => dn o (by unfold qX at x0; omega) (fun k hk => by unfold qX at *; omega)
  have r1 : QyR K P I1 S1 nq lqq tn := ⟨⟨a1.frm (fun _ _ => ⟨rfl, rfl⟩) ⟨dl 1480 (by decide) (by decide), dl 999 (by decide) (by decide), fun o x0 x1 => dl o (by omega) (by omega)⟩, (f1 61 (by decide) (by decide)).trans a2⟩, a3.of qs (fun o y x0 x1 _ => by rw [fu o (by omega) (by omega) (by omega)]) h2 h0.1, ⟨a4, a5, a6.frm2 (fun o x0 x1 => qn o x0 (by unfold qX at x1; omega)) (fun o x0 x1 => fu o (by omega) (by omega) (by omega)) h2 ⟨h0.1, f1 51 (by decide) (by decide), f1 52 (by decide) (by decide), f1 55 (by decide) (by decide)⟩⟩, ⟨fun j j0 j1 a ha => by
      have x : qX nq ≤ qX j + a ∧ qX j + a < 12000 := by unfold qX; omega
      rw [qn _ x.1 x.2]
      exact a7 j j0 j1 a ha, a8⟩, a9.of (fun y hy => f1 y (by omega) (by omega)) (fu 254 (by decide) (by decide) (by decide)) (fu 262 (by decide) (by decide) (by decide)), by rw [fu 260 (by decide) (by decide) (by decide)]; exact a10⟩
  obtain ⟨⟨v1, v2⟩, v3, v4, v5, v6⟩ := vw
  have e269 := fu 269 (by decide) (by decide) (by decide)
  have r2 : VwI K P I1 S1 nq nv l3 l4 := ⟨⟨v1.frm a1 e269 (fun j hj => (v3 j hj).1.1) (fun _ _ => ⟨rfl, rfl⟩) ⟨dl 1512 (by decide) (by decide), dl 1544 (by decide) (by decide), dl 999 (by decide) (by decide), fun o x0 x1 => dl o (by omega) (by omega)⟩, (f1 68 (by decide) (by decide)).trans v2⟩, v3.of a3 v1.2.1 ⟨⟨b2.sch.2, hE.sch.2⟩, St4.of (fu 214 (by decide) (by decide) (by decide)) (fu 215 (by decide) (by decide) (by decide)), fun o x0 x1 => fu o (by omega) (by omega) (by omega), e269, f1 68 (by decide) (by decide), h2, hv⟩ (fun o x0 x1 => dl o (by omega) (by omega)), v4.frm (fun o x0 x1 => ⟨rfl, dl o (by omega) (by omega)⟩), v5, v6⟩
  have r3 : EvI2 K P I1 S1 w M := ev.frm (fun _ _ => ⟨rfl, rfl⟩) ⟨dl 1416 (by decide) (by decide), dl 1417 (by decide) (by decide)⟩ ⟨fu 276 (by decide) (by decide) (by decide), f1 77 (by decide) (by decide), f1 78 (by decide) (by decide)⟩
  obtain ⟨⟨p1, p2⟩, ⟨-, p4⟩, p5, p6, p7, p8, p9, p10⟩ := pn
  have r4 : PnI (c + 1) I1 S1 U nq := by
    refine ⟨⟨?_, ?_⟩, ⟨fun j hj => ?_, ?_⟩, p5, h292, by rw [f1 67 (by decide) (by decide)]; omega, by rw [fu 265 (by decide) (by decide) (by decide)]; exact p8, fun y y0 y1 => h263 y (by omega) y1, by rw [hI (qX nq) (by unfold qX; omega), dpI_q nq (Nat.le_refl nq)]; exact p10⟩
    · exact hPl
    · unfold PlV at *
      rw [dl 1390 (by decide) (by decide), dl 1393 (by decide) (by decide)]
      exact p2
    · have e9 : I1 (qX j) 9 = 0 := by rw [hI _ (by unfold qX; omega)]; exact dpI_9 nq hj
      have e63 := h263 j (by omega) (by omega)
      exact ⟨⟨Or.inl e9, fun _ => e63, fun _ => e9⟩, fun y => absurd e9 y⟩
    · rw [dl 1384 (by decide) (by decide), f1 67 (by decide) (by decide)]; exact p4
  refine ⟨⟨n, N, g, lq, lv, mv, q, nq, lqq, tn, nv, l3, l4, w, M, ⟨⟨b1.out b1.c (fun o ho => ⟨rfl, rfl, dl o (by omega) (by omega)⟩), hE⟩, ⟨zC, (mNext_of e21 e25 (f1 19 (by decide) (by decide))).trans z2, by rw [f1 16 (by decide) (by decide)]; omega⟩, fun j hj => ?_, f.frm (fun o x0 x1 => ⟨rfl, dl o (by omega) (by omega)⟩), g1⟩, ?_, dr.frm ⟨by rw [dl 1000 (by decide) (by decide)], dl 1009 (by decide) (by decide)⟩ ⟨fu 238 (by decide) (by decide) (by decide), f1 37 (by decide) (by decide)⟩, r1, r2, r3, r4, ?_⟩, f1 93 (by decide) (by decide)⟩
  · rw [dl (tX j) (by unfold tX; omega) (by unfold tX; omega), mM_of e21 e25]
    have := d j hj
    omega
  · unfold QzR at *
    omega
  · unfold RmR at *
    omega
theorem case_at (h : LI c L xs K P J I cs ns) (c5 : c < 512) : CaseC c L xs m_Law_at [vR (some 1000), vI p1, vI p2, vR (some 50)] m_Model_at [vR (some 100), vI p1, vI p2] K P J I cs ns := by
  obtain ⟨k1, k2⟩ := h.k1000
  have hM := h.1.1.1.rs
  obtain ⟨n, N, g, lq, lv, mv, q, nq, lqq, tn, nv, l3, l4, w, M, eg, qz, dr, qy, vw, ⟨e1, e2, ⟨e3, e3'⟩, e4, e5⟩, pn, rm⟩ := id h.2
  have rf := sp_Model_at (J := rsI RefN J) (I := mS I) (a := p1) (c := p2) hM (by omega) (by omega)
  have hb := hb_i (z := p2) (hb_i (z := p1) hb_1)
  by_cases hc : (0 ≤ p1 ∧ p1 < M.length) ∧ 0 ≤ p2 ∧ p2 < w
  · have r0 := ref_0 rf (if_pos ⟨bNe.mpr ⟨hc.1.1, by omega⟩, bNe.mpr ⟨hc.2.1, by omega⟩⟩) (by decide) (by decide)
    have sp := at_run (J := J) eg.1.1.c e2 e4.1 e4.2 hc.1 hc.2
    have ev : I 1417 ((w : Int) * p1 + p2) = (f_Model_at p1 p2 (up2 (mS I) 100 93 0)).2 := by
      show I 1417 ((w : Int) * p1 + p2) = up2 (mS I) 100 93 0 276 (up2 (mS I) 100 93 0 100 78 * p1 + p2)
      rw [up2_o _ _ _ _ (by decide), up2_k _ _ _ _ (by decide), e3', e5 p1 p2 hc.1.1 hc.1.2 hc.2.1 hc.2.2]
    rw [ev] at sp
    exact case_ex (kk := 0) (nn := 0) (es := [(eIOO, 1)]) h c5 hb (ez_1 (by decide)) es_1 (fun _ s x r => lw_at k1 k2 s x r) sp (by decide) (by decide) (Or.inr ⟨_, rfl, r0⟩)
  · have cd : cd_Model_at (mS I) p1 p2 = 1 := if_neg (fun y => hc ⟨by have := bNe.mp y.1; omega, by have := bNe.mp y.2; omega⟩)
    exact case_ex (es := [(eIOO, 1)]) h c5 hb (ez_1 (by decide)) es_1 (fun _ s x r => lw_at k1 k2 s x r) (at_no eg.1.1.c e2 hc) (by decide) (by decide) (Or.inl ⟨(eIOO, 1), _, List.mem_cons_self .., rfl, ref_1 rf cd (by decide) (by decide) (by decide)⟩)
theorem case_analyze (h : LI c L xs K P J I cs ns) (c5 : c < 512) : CaseD c L xs m_F_analyze [vR (some 1000)] m_Model_analyze [vR (some 100)] K P J I cs ns := by
  have hM := h.1.1.1.rs
  obtain ⟨S0, hS0⟩ : ∃ S0, S0 = up2 (mS I) 100 93 0 := ⟨_, rfl⟩
  have hl : LR c K P I S0 (rsI RefN J) cs ns := by rw [hS0]; exact h.2.u93
  have sy : ∀ o y, o ≠ 100 ∨ y ≠ 93 → S0 o y = mS I o y := fun o y a => by rw [hS0]; exact sx o y a
  obtain ⟨n', N', g', lq', lv', mv', q', nq', lqq', tn', nv', l3', l4', w', M', ⟨⟨-, bM⟩, -⟩, -⟩ := h.2
  obtain ⟨n, N, g, lq, lv, mv, q, nq, lqq, tn, nv, l3, l4, w, M, eg, qz, dr, qy, vw, ev, pn, rm⟩ := hl
  obtain ⟨s0, s6, s00, sw⟩ := sch_of bM
  have n20 := qy.1.1.2.1
  have sp := analyze_run (J := J) eg.1.1.c qy.1.1 ⟨s00, s6⟩ (fun t t0 t1 => by
    have := bM.sch.2.wid (t := t) ⟨t0, t1⟩
    have := sw t t0 t1
    omega)
  have hPl : PlR I (mAn0 (mS I)) ∧ ∀ y, 0 ≤ mAn0 (mS I) 292 y ∧ mAn0 (mS I) 292 y ≤ 8 := by
    have e : ∀ o, o ≠ 263 → o ≠ 100 → mAn0 (mS I) o = S0 o := fun o a b => funext (fun y => by
      rw [hS0]
      exact filI_fr a)
    have p := pn.1.1
    have p6 := pn.2.2.2.1
    unfold PlR at *
    rw [e 291 (by decide) (by decide), e 292 (by decide) (by decide)]
    exact ⟨p, p6⟩
  obtain ⟨k1, k2⟩ := ksT_eq bM hPl (mS I 100 0).toNat (by omega)
  rw [s0] at sp
  have kq : ∀ j, ksT I I (mS I 100 0).toNat (qX j) 9 = I (qX j) 9 := fun j => by rw [ksT_o (by unfold qX; omega) (by unfold qX; omega)]
  have ev2 : dpN (ksT I I (mS I 100 0).toNat) nq = cntI (fun k => mS I 263 k ≠ 0) 20 := by
    have a1 : dpN (ksT I I (mS I 100 0).toNat) nq = cntI (fun k => mS I 263 k ≠ 0) nq := by
      unfold dpN
      refine cntI_eq nq (fun j hj => ?_)
      rw [Int.toNat_natCast, kq j]
      have p := (pn.2.1.1 j hj).1.2
      rw [sy 263 j (Or.inl (by decide))] at p
      exact ⟨fun a b => a (p.mpr b), fun a b => a (p.mp b)⟩
    have a2 : ∀ m : Nat, nq + m ≤ 20 → cntI (fun k => mS I 263 k ≠ 0) (nq + m) = cntI (fun k => mS I 263 k ≠ 0) nq := fun m => by
      induction m with
      | zero => intro _; rfl
      | succ m ih =>
        intro hm
        have z := pn.2.2.2.2.2.2.1 ((nq + m : Nat) : Int) (by omega) (by omega)
        rw [sy 263 _ (Or.inl (by decide))] at z
        have a := cntI_no (g := fun k => mS I 263 k ≠ 0) (n := nq + m) (fun y => y z)
        have b := ih (by omega)
        rw [show nq + (m + 1) = nq + m + 1 by omega]
        omega
    have a3 := a2 (20 - nq) (by omega)
    rw [show nq + (20 - nq) = 20 by omega] at a3
    rw [a1, a3]
  rw [ev2] at sp
  have sp2 := (sp_Model_analyze (J := rsI RefN J) (I := mS I) hM bM.mb).room (R' := rmv 12 400) (by decide) (by decide) (Nat.le_refl _) (Nat.le_refl _)
  have fI : ∀ o, ¬ (1385 ≤ o ∧ o ≤ 1386) → dpI (ksT I I (mS I 100 0).toNat) nq o = dpI I nq o := fun o ho => dpI_c kq (ksT_o (by omega) (by omega) _) nq
  have fS : ∀ (o : Nat) (y : Int), ¬ (291 ≤ o ∧ o ≤ 292) → o ≠ 263 → mAnT (mS I) (mAn0 (mS I)) (mS I 100 0).toNat o y = S0 o y := fun o y a b => by
    rw [mAnT_o _ o y (by omega) (by omega), hS0]
    exact filI_fr b
  have f3 : ∀ y, 0 ≤ y → y < 20 → mAnT (mS I) (mAn0 (mS I)) (mS I 100 0).toNat 263 y = 0 := fun y y0 y1 => by
    rw [mAnT_o _ 263 y (by decide) (by decide)]
    exact filI_in ⟨y0, y1⟩
  have hPl2 : PlR (dpI (ksT I I (mS I 100 0).toNat) nq) (mAnT (mS I) (mAn0 (mS I)) (mS I 100 0).toNat) := by
    unfold PlR at *
    rw [dpI_o (Or.inl (by decide)) nq n20, dpI_o (Or.inl (by decide)) nq n20]
    exact k1
  have lr := ana_lr (U := rsI RefN J) eg qz qy vw ev pn rm dr fI fS hPl2 k2 f3
  exact case_d (kk := 0) (nn := 0) h c5 hb_1 sp ⟨by decide, by decide, rfl, rfl⟩ (by decide) (by decide) (fun o ho => ⟨rfl, rfl, (fI o (by omega)).trans (dpI_o (Or.inl (by omega)) nq n20)⟩) sp2 (by rw [lr.2, hS0, up2_eq]) lr.1
end
