/-! the calls that build a query: the cases of the law -/
section
variable {K K' : KT} {P P' : PT} {J J' I I' I1 S0 S1 S S' T U : IT} {cs ns n N N' g g' lq lq' nq lqq tn tn' nv l3 l4 w i k z x c : Nat} {lv mv lv' mv' : Nat → Nat} {q q' : Int} {M : List (List Int)} {L : Nat} {xs : Int → Int} {p1 p2 p3 p4 p5 : Int}
theorem quOne_n {I : IT} {q o : Nat} {k w a b c d : Int} (h : o < q ∨ q + 10 ≤ o) : quOne I q k w a b c d o = I o := (funext (fun y => up2_o _ _ _ _ (by omega))).trans ((quSet_o _ _ _ _ _ _ (by omega)).trans (quPut_o _ _ _ _ _ _ (by omega)))
theorem quTwo_n {I : IT} {q o : Nat} {k w a b c : Int} (h : o < q ∨ q + 10 ≤ o) : quTwo I q k w a b c o = I o := (funext (fun y => (up2_o _ _ _ _ (by omega)).trans (up2_o _ _ _ _ (by omega)))).trans ((quSet_o _ _ _ _ _ _ (by omega)).trans (quPut_o _ _ _ _ _ _ (by omega)))
theorem quScan_n {I : IT} {q o : Nat} {t w : Int} (h : o < q ∨ q + 10 ≤ o) : quScan I q t w o = I o := (funext (fun y => (up2_o _ _ _ _ (by omega)).trans ((up2_o _ _ _ _ (by omega)).trans (up2_o _ _ _ _ (by omega))))).trans ((quSet_o _ _ _ _ _ _ (by omega)).trans (quPut_o _ _ _ _ _ _ (by omega)))
theorem quPS_9 {I : IT} {q : Nat} {k w f s a b c d : Int} : quSet (quPut I q k w f s) q a b c d q 9 = I q 9 := by
  rw [quSet_o _ _ _ _ _ _ (by omega)]
  unfold quPut
  rw [up2_k _ _ _ _ (by decide), filI_fr (by omega), up2_o _ _ _ _ (by omega), up2_o _ _ _ _ (by omega), up2_o _ _ _ _ (by omega), up2_o _ _ _ _ (by omega)]
theorem quOne_9 {I : IT} {q : Nat} {k w a b c d : Int} : quOne I q k w a b c d q 9 = I q 9 := (up2_o _ _ _ _ (by omega)).trans quPS_9
theorem quTwo_9 {I : IT} {q : Nat} {k w a b c : Int} : quTwo I q k w a b c q 9 = I q 9 := (up2_o _ _ _ _ (by omega)).trans ((up2_k _ _ _ _ (by decide)).trans quPS_9)
theorem quScan_9 {I : IT} {q : Nat} {t w : Int} : quScan I q t w q 9 = I q 9 := (up2_k _ _ _ _ (by decide)).trans ((up2_k _ _ _ _ (by decide)).trans ((up2_o _ _ _ _ (by omega)).trans quPS_9))
theorem mAdd_n {S : IT} {op a b c nt y : Int} {o : Nat} (h1 : ¬ (256 ≤ o ∧ o ≤ 260 ∧ y = S 100 52)) (h2 : ¬ (o = 100 ∧ y = 52)) : mAdd S op a b c nt o y = S o y := (up2_x h2).trans ((up2_x (by omega)).trans ((up2_x (by omega)).trans ((up2_x (by omega)).trans ((up2_x (by omega)).trans (up2_x (by omega))))))
theorem mAdd_t {S : IT} {op a b c nt : Int} : mAdd S op a b c nt 260 (S 100 52) = nt := (up2_o _ _ _ _ (by decide)).trans (up2_eq _ _ _ _)
/-- between two calls, behind one that builds a query -/
theorem tree_lr (tr : TrR I1 S1 (qX nq) tn') (eg : EgR c K P I S0 n N g lq lv mv q) (qz : QzR c n nq tn S0 q) (qy : QyR K P I S0 nq lqq tn) (vw : VwI K P I S0 nq nv l3 l4) (ev : EvI2 K P I S0 w M) (pn : PnI c I S0 U nq) (rm : RmR c g n nq nv lq lqq lv mv cs ns) (dr : DrR I S0) (hn : x < 12) (hI : ∀ o, o < qX nq ∨ qX nq + 10 ≤ o → I1 o = I o) (hS : ∀ (o : Nat) (y : Int), o ≠ 253 → o ≠ 254 → ¬ (256 ≤ o ∧ o ≤ 260 ∧ y = x) → ¬ (o = 100 ∧ (y = 51 ∨ y = 52 ∨ y = 55)) → S1 o y = S0 o y) (h9 : I1 (qX nq) 9 = I (qX nq) 9) (h260 : S1 260 x = 0 ∨ S1 260 x = 1) : LR (c + 1) K P I1 S1 U (cs + 0) (ns + 0) ∧ S1 100 93 = S0 100 93 := by
  have bb := eg.1
  obtain ⟨b1, b2⟩ := bb
  obtain ⟨⟨a1, a2⟩, a3, ⟨a4, a5, a6⟩, ⟨a7, a8⟩, a9, a10⟩ := qy
  have n20 := a1.2.1
  have xq : 10000 ≤ qX nq ∧ qX nq + 10 ≤ 10660 := by unfold qX; omega
  have dl : ∀ o, (o < 10000 ∨ 10660 ≤ o) → I1 o = I o := fun o h => hI o (by omega)
  have fu : ∀ o, o ≠ 253 → o ≠ 254 → ¬ (256 ≤ o ∧ o ≤ 260) → o ≠ 100 → S1 o = S0 o := fun o a b d e => funext (fun y => hS o y a b (by omega) (by omega))
  have f1 : ∀ y, y ≠ 51 → y ≠ 52 → y ≠ 55 → S1 100 y = S0 100 y := fun y a b e => hS 100 y (by decide) (by decide) (by omega) (by omega)
  have s0 := f1 0 (by decide) (by decide) (by decide)
  have e201 := fu 201 (by decide) (by decide) (by omega) (by decide)
  have e269 := fu 269 (by decide) (by decide) (by omega) (by decide)
  have hs' : SSch S1 := b2.sch.2.of (fun o y ho => hS o y (by omega) (by omega) (by omega) (by omega))
  have qs : ∀ j, j < nq → QuSame I1 I (qX j) 12 := fun j hj => by
    have es : ∀ a, a < 32 → I1 (qX j + a) = I (qX j + a) := fun a x0 => hI _ (Or.inl (by unfold qX; omega))
    have e0 : I1 (qX j) = I (qX j) := es 0 (by decide)
    unfold QuSame
    rw [e0, es 3 (by decide), es 4 (by decide), es 5 (by decide), es 6 (by decide), es 7 (by decide)]
    exact ⟨rfl, fun k _ => ⟨⟨rfl, rfl, rfl, rfl⟩, fun _ _ _ => rfl⟩⟩
  obtain ⟨-, u51, u55, u12⟩ := tr.qub hs'
  have n52 := tr.n52.1
  have w254 := tr.2.2.2.2.2.2.2.2
  have hqb : QB S1 := by
    obtain ⟨-, -, -, -, q5, q6⟩ := a9
    exact ⟨by omega, by omega, by omega, w254, by rw [f1 61 (by decide) (by decide) (by decide)]; exact q5, by rw [fu 262 (by decide) (by decide) (by omega) (by decide)]; exact q6⟩
  have r1 : QyR K P I1 S1 nq lqq tn' := ⟨⟨a1.frm (fun _ _ => ⟨rfl, rfl⟩) ⟨dl 1480 (by omega), dl 999 (by omega), fun o x0 x1 => dl o (by omega)⟩, (f1 61 (by decide) (by decide) (by decide)).trans a2⟩, a3.of qs (fun o y x0 x1 h => hS o y (by omega) (by omega) (by omega) (by omega)) (fun t _ _ => by rw [e201]) (by rw [s0]; exact Int.le_refl _), ⟨a4, a5, tr⟩, ⟨fun j j0 j1 a ha => by
      have x : qX nq + 10 ≤ qX j + a := by unfold qX; omega
      rw [hI _ (Or.inr x)]
      exact a7 j j0 j1 a ha, a8⟩, hqb, fun y => by
    by_cases e : y = x
    · rw [e]; exact h260
    · rw [hS 260 y (by decide) (by decide) (by omega) (by omega)]; exact a10 y⟩
  obtain ⟨⟨v1, v2⟩, v3, v4, v5, v6⟩ := vw
  have r2 : VwI K P I1 S1 nq nv l3 l4 := by
    refine ⟨⟨v1.frm a1 e269 (fun j hj => (v3 j hj).1.1) (fun _ _ => ⟨rfl, rfl⟩) ⟨dl 1512 (by omega), dl 1544 (by omega), dl 999 (by omega), fun o x0 x1 => dl o (by omega)⟩, (f1 68 (by decide) (by decide) (by decide)).trans v2⟩, fun j hj => ?_, v4.frm (fun o x0 x1 => ⟨rfl, dl o (by omega)⟩), v5, v6⟩
    obtain ⟨⟨a, b⟩, w', M', cc, d⟩ := v3 j hj
    rw [e269]
    have e2 : S1 262 = S0 262 := fu 262 (by decide) (by decide) (by omega) (by decide)
    have eo : ∀ o k, 256 ≤ o → o ≤ 260 → 0 ≤ k → S1 o (12 * (S0 269 j + 1) + k) = S0 o (12 * (S0 269 j + 1) + k) := fun o k x0 x1 k0 => hS o _ (by omega) (by omega) (by omega) (by omega)
    refine ⟨⟨a, fun k k0 k1 => ?_⟩, w', M', cc.of b2.sch.2 hs' (St4.of (fu 214 (by decide) (by decide) (by omega) (by decide)) (fu 215 (by decide) (by decide) (by omega) (by decide))) (by rw [e2]) (fun i _ => ⟨eo 256 i (by decide) (by decide) (by omega), eo 257 i (by decide) (by decide) (by omega), eo 258 i (by decide) (by decide) (by omega), eo 259 i (by decide) (by decide) (by omega), eo 260 i (by decide) (by decide) (by omega)⟩) (fun i _ _ _ => by rw [e201]) (fun t ρ => rowSeen_of (f1 8 (by decide) (by decide) (by decide)) (fun o x0 x1 => fu o (by omega) (by omega) (by omega) (by omega))), d.fr (dl _ (by unfold vX; omega)) (dl _ (by unfold vX; omega))⟩
    rw [e2] at k1
    have g := b k k0 k1
    unfold mVwG mInner at *
    rw [e2, eo 256 k (by decide) (by decide) k0, eo 257 k (by decide) (by decide) k0, eo 258 k (by decide) (by decide) k0]
    exact g
  have r3 : EvI2 K P I1 S1 w M := ev.frm (fun _ _ => ⟨rfl, rfl⟩) ⟨dl 1416 (by omega), dl 1417 (by omega)⟩ ⟨fu 276 (by decide) (by decide) (by omega) (by decide), f1 77 (by decide) (by decide) (by decide), f1 78 (by decide) (by decide) (by decide)⟩
  obtain ⟨⟨p1, p2⟩, ⟨p3, p4⟩, p5, p6, p7, p8, p9, p10⟩ := pn
  have r4 : PnI (c + 1) I1 S1 U nq := by
    refine ⟨⟨?_, ?_⟩, ⟨fun j hj => ?_, ?_⟩, p5, by rw [fu 292 (by decide) (by decide) (by omega) (by decide)]; exact p6, by rw [f1 67 (by decide) (by decide) (by decide)]; omega, by rw [fu 265 (by decide) (by decide) (by omega) (by decide)]; exact p8, by rw [fu 263 (by decide) (by decide) (by omega) (by decide)]; exact p9, h9.trans p10⟩
    · unfold PlR at *
      rw [dl 1385 (by omega), dl 1386 (by omega), fu 291 (by decide) (by decide) (by omega) (by decide), fu 292 (by decide) (by decide) (by omega) (by decide)]
      exact p1
    · unfold PlV at *
      rw [dl 1390 (by omega), dl 1393 (by omega)]
      exact p2
    · rw [hI (qX j) (Or.inl (by unfold qX; omega)), hI (qX j + 13) (Or.inl (by unfold qX; omega)), fu 263 (by decide) (by decide) (by omega) (by decide), fu 264 (by decide) (by decide) (by omega) (by decide), fu 265 (by decide) (by decide) (by omega) (by decide), fu 266 (by decide) (by decide) (by omega) (by decide)]
      exact p3 j hj
    · rw [dl 1384 (by omega), f1 67 (by decide) (by decide) (by decide)]; exact p4
  refine ⟨⟨n, N, g, lq, lv, mv, q, nq, lqq, tn', nv, l3, l4, w, M, eg.frm b1.c (fun o ho => ⟨rfl, rfl, dl o (by omega)⟩) (fun o y ho => ?_) (by rw [f1 37 (by decide) (by decide) (by decide)]; omega) ⟨Int.le_refl _, b2.rd.2.2⟩, ?_, dr.frm ⟨by rw [dl 1000 (by omega)], dl 1009 (by omega)⟩ ⟨fu 238 (by decide) (by decide) (by omega) (by decide), f1 37 (by decide) (by decide) (by decide)⟩, r1, r2, r3, r4, ?_⟩, f1 93 (by decide) (by decide) (by decide)⟩
  · unfold erM at ho
    exact hS o y (by omega) (by omega) (by omega) (by omega)
  · unfold QzR at *
    rw [s0]
    split <;> split at qz <;> omega
  · unfold RmR at *
    omega
end
