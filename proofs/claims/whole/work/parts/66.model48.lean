section
variable {M : MD} {x : Bool} {R : Room} {Q : PQ} {K : KT} {P : PT} {J I : IT} {cs n pc pc' j : Nat} {L : List (Nat × AV)} {S : List AV}
theorem ow_inst : Cond.instanceMethod Lib.objectInit ∈ TB := tq1 43 rfl rfl
theorem ow_code : Cond.code Lib.objectInit ⟨#[0xb1]⟩ 1 none ∈ TB := tq1 44 rfl rfl
/-- the call of java.lang.Object's own constructor -/
theorem VW.objI {o : Nat} (d : decode M.2.1 pc = .ok (.invokespecial j, 3)) (hp : pc + 3 = pc') (hl : Cond.methodLink M.1.cls j Lib.objectInit ∈ TB) (h8 : Nat.ble (sl S) 8 = true) (hR1 : Nat.ble 1 R.frames = true) (hR2 : Nat.ble 20 R.locals = true) (k : VW M x R Q K P J I cs n pc' L S) : VW M x R Q K P J I cs n pc L (vR (some o) :: S) := by
  subst hp
  exact VW.go k (fun {p l e s m args below meth c D ad0 ad K0 dom H locs ls Qf} X hll kk => W.objInit (own := M.1.cls) X.1.1 X.1.2.1 X.1.2.2.2.2.1 (X.1.2.2.2.2.2.1 _ hl) (X.1.2.2.2.2.2.1 _ ow_inst) (X.1.2.2.2.2.2.1 _ ow_code) rfl (hll.1.trans X.1.2.2.2.1.symm) rfl d (Nat.le_of_ble_eq_true hR1) (by have a := cats ad S h8; have b := Nat.le_of_ble_eq_true hR2; show 2 * 0 + _ + 12 ≤ _; omega) (kk ls X.2.2.2.2.1.tl X.2.2.2.2.2.1 hll))
end
section
variable {K : KT} {P : PT} {J I : IT} {Q : PQ}
/-- the reference's heap with the arrays of its first m fields made -/
def kK (m : Nat) (K : KT) : KT := fun o => if 200 ≤ o ∧ o < 200 + m then KM o else K o
def pP (m : Nat) (P : PT) : PT := fun o k => if o = 100 ∧ 0 ≤ k ∧ k < m then PM k.toNat else P o k
/-- names that are free for it -/
def Fresh (K : KT) (P : PT) : Prop := K 100 = some (11, 0) ∧ (∀ o, 200 ≤ o → o < 294 → K o = none) ∧ ∀ k : Int, P 100 k = none
theorem kK_0 : kK 0 K = K := by
  funext o
  exact if_neg (by omega)
theorem pP_0 : pP 0 P = P := by
  funext o k
  exact if_neg (by omega)
theorem kK_100 {m : Nat} (h : Fresh K P) : kK m K 100 = some (11, 0) := (if_neg (by omega)).trans h.1
theorem kK_f {m o : Nat} (h : Fresh K P) (ho : 200 + m = o) (hm : m < 94) : kK m K o = none := (if_neg (by omega)).trans (h.2.1 o (by omega) (by omega))
theorem kK_a {m o : Nat} {kd : Nat × Nat} (ho : 200 + m = o) (hk : KM o = some kd) : upK (kK m K) o kd = kK (m + 1) K := by
  funext q
  unfold upK kK
  by_cases e : q = o
  · rw [if_pos e, if_pos (by omega), e, hk]
  · rw [if_neg e]
    by_cases e2 : 200 ≤ q ∧ q < 200 + m
    · rw [if_pos e2, if_pos (by omega)]
    · rw [if_neg e2, if_neg (by omega)]
theorem pP_a {m : Nat} {r : Option Nat} (hr : PM m = r) : up2 (pP m P) 100 (m : Int) r = pP (m + 1) P := by
  funext o k
  unfold up2 pP
  by_cases e : o = 100 ∧ k = m
  · rw [if_pos e, if_pos (by omega), e.2, Int.toNat_natCast, hr]
  · rw [if_neg e]
    by_cases e2 : o = 100 ∧ 0 ≤ k ∧ k < m
    · rw [if_pos e2, if_pos (by omega)]
    · rw [if_neg e2, if_neg (by omega)]
theorem kK_s {m : Nat} (h : Fresh K P) (hm : m < 94) (hk : KM (200 + m) = none) : kK (m + 1) K = kK m K := by
  funext q
  unfold kK
  by_cases e2 : 200 ≤ q ∧ q < 200 + m
  · rw [if_pos e2, if_pos (by omega)]
  · rw [if_neg e2]
    by_cases e : q = 200 + m
    · rw [if_pos (by omega), e, hk, h.2.1 _ (by omega) (by omega)]
    · rw [if_neg (by omega)]
theorem pP_s {m : Nat} (h : Fresh K P) (hk : PM m = none) : pP (m + 1) P = pP m P := by
  funext o k
  unfold pP
  by_cases e2 : o = 100 ∧ 0 ≤ k ∧ k < m
  · rw [if_pos e2, if_pos (by omega)]
  · rw [if_neg e2]
    by_cases e : o = 100 ∧ k = m
    · rw [if_pos (by omega), e.2, Int.toNat_natCast, hk, e.1, h.2.2]
    · rw [if_neg (by omega)]
theorem mw_init (h : Fresh K P) : MW (kK 94 K) (pP 94 P) := by
  refine ⟨fun o kd e => ?_, fun k hk => ?_⟩
  · by_cases e1 : o = 100
    · subst e1
      have : KM 100 = some (11, 0) := rfl
      rw [this] at e
      rw [← e]; exact kK_100 h
    · by_cases e2 : 200 ≤ o ∧ o < 294
      · rw [← e]; exact if_pos (by omega)
      · exfalso
        unfold KM at e
        rw [show Nat.beq o 100 = false from by cases hh : Nat.beq o 100 with
          | true => exact absurd (Nat.eq_of_beq_eq_true hh) e1
          | false => rfl] at e
        by_cases e3 : 200 ≤ o
        · rw [show Nat.ble 200 o = true from Nat.ble_eq_true_of_le e3] at e
          rw [show KL[o - 200]? = none from List.getElem?_eq_none (by show KL.length ≤ o - 200; show 94 ≤ o - 200; omega)] at e
          cases e
        · rw [show Nat.ble 200 o = false from Bool.eq_false_iff.2 (fun z => e3 (Nat.le_of_ble_eq_true z))] at e
          cases e
  · show (if _ then _ else _) = _
    rw [if_pos (by omega), Int.toNat_natCast]
theorem in_loop (hF : Fresh K P) : VW m_Model_init false ({ frames := 1, cells := 72, slots := 1535686, locals := 40 } : Room) (ex (kK 94 K) (pP 94 P) J (filI I 206 0 24 (-1)) (.inl none)) (kK 94 K) (pP 94 P) J I 72 1535686 592 [(0, vR (some 100))] [] := by
  have hM := mw_init hF
  have loop : ∀ (l : Nat) (c : Int), c + l = 24 → 0 ≤ c → VW m_Model_init false ({ frames := 1, cells := 72, slots := 1535686, locals := 40 } : Room) (ex (kK 94 K) (pP 94 P) J (filI I 206 0 24 (-1)) (.inl none)) (kK 94 K) (pP 94 P) J (filI I 206 0 c (-1)) 72 1535686 594 [(0, vR (some 100)), (1, vI c)] [] := by
    intro l
    induction l with
    | zero =>
      intro c hc h0
      have ec : c = 24 := by omega
      subst ec
      refine VW.iload_n (pc' := 595) d_Model_init_594 rfl rfl ?_
      refine VW.bipush (pc' := 597) d_Model_init_595 rfl (by decide) ?_
      refine VW.icmp_ge (tgt := 613) (pc' := 600) d_Model_init_597 rfl rfl (fun c597 => ?_) (fun c597 => ?_)
      · exact VW.vret d_Model_init_613 rfl (by decide) (by decide) ex_rf
      · exfalso; omega
    | succ l ih =>
      intro c hc h0
      have nx := ih (c + 1) (by omega) (by omega)
      rw [← filI_step h0] at nx
      clear ih
      refine VW.iload_n (pc' := 595) d_Model_init_594 rfl rfl ?_
      refine VW.bipush (pc' := 597) d_Model_init_595 rfl (by decide) ?_
      refine VW.icmp_ge (tgt := 613) (pc' := 600) d_Model_init_597 rfl rfl (fun c597 => ?_) (fun c597 => ?_)
      · exfalso; omega
      · refine VW.aload_n (pc' := 601) d_Model_init_600 rfl rfl ?_
        refine VW.gP (ci := 11) (T := T11) (N := 94) (k := 6) (k' := 6) (pc' := 604) d_Model_init_601 rfl lk_Model_25 in11 rfl rfl rfl rfl (hM.k rfl) (hM.p (r := some 206) 6 rfl rfl) ?_
        refine VW.iload_n (pc' := 605) d_Model_init_604 rfl rfl ?_
        refine VW.iconst (pc' := 606) d_Model_init_605 rfl (by decide) ?_
        refine VW.iast (pc' := 607) d_Model_init_606 rfl (hM.k rfl) (by omega) (by omega) ?_
        refine VW.iinc (pc' := 610) d_Model_init_607 rfl rfl rfl (by omega) ?_
        refine VW.goto (pc' := 594) d_Model_init_610 rfl ?_
        refine VW.nrm ?_
        exact nx
  have l := loop 24 0 (by omega) (by omega)
  rw [filI_0 (hi := 0) (Int.le_refl 0)] at l
  clear loop
  refine VW.iconst (pc' := 593) d_Model_init_592 rfl (by decide) ?_
  refine VW.istore_n (pc' := 594) d_Model_init_593 rfl rfl ?_
  refine VW.nrm ?_
  exact l
theorem in_61 (hF : Fresh K P) : VW m_Model_init false ({ frames := 1, cells := 72, slots := 1535686, locals := 40 } : Room) (ex (kK 94 K) (pP 94 P) J (filI I 206 0 24 (-1)) (.inl none)) (kK 80 K) (pP 80 P) J I 61 1535560 507 [(0, vR (some 100))] [] := by
  refine VW.aload_n (pc' := 508) d_Model_init_507 rfl rfl ?_
  refine VW.bipush (pc' := 510) d_Model_init_508 rfl (by decide) ?_
  refine VW.newI 280 (N := 12) (pc' := 512) d_Model_init_510 rfl kw_arrayClass_int rfl (by decide) (kK_f hF rfl (by decide)) (by decide) (by decide) ?_
  rw [kK_a rfl rfl]
  refine VW.pPF (ci := 11) (T := T11) (N := 94) (k := 80) (k' := 80) (ty := ty11) (pc' := 515) d_Model_init_512 rfl lk_Model_197 in11 tk11 nm11 rfl rfl rfl rfl rfl rfl rfl (by first | exact Or.inl ⟨_, rfl⟩ | exact Or.inr ⟨_, rfl⟩) (kK_100 hF) ?_
  rw [show up2 (pP 80 P) 100 80 (some 280) = pP 81 P from pP_a rfl]
  refine VW.aload_n (pc' := 516) d_Model_init_515 rfl rfl ?_
  refine VW.bipush (pc' := 518) d_Model_init_516 rfl (by decide) ?_
  refine VW.newI 281 (N := 12) (pc' := 520) d_Model_init_518 rfl kw_arrayClass_int rfl (by decide) (kK_f hF rfl (by decide)) (by decide) (by decide) ?_
  rw [kK_a rfl rfl]
  refine VW.pPF (ci := 11) (T := T11) (N := 94) (k := 81) (k' := 81) (ty := ty11) (pc' := 523) d_Model_init_520 rfl lk_Model_200 in11 tk11 nm11 rfl rfl rfl rfl rfl rfl rfl (by first | exact Or.inl ⟨_, rfl⟩ | exact Or.inr ⟨_, rfl⟩) (kK_100 hF) ?_
  rw [show up2 (pP 81 P) 100 81 (some 281) = pP 82 P from pP_a rfl]
  refine VW.aload_n (pc' := 524) d_Model_init_523 rfl rfl ?_
  refine VW.bipush (pc' := 526) d_Model_init_524 rfl (by decide) ?_
  refine VW.newI 282 (N := 12) (pc' := 528) d_Model_init_526 rfl kw_arrayClass_int rfl (by decide) (kK_f hF rfl (by decide)) (by decide) (by decide) ?_
  rw [kK_a rfl rfl]
  refine VW.pPF (ci := 11) (T := T11) (N := 94) (k := 82) (k' := 82) (ty := ty11) (pc' := 531) d_Model_init_528 rfl lk_Model_203 in11 tk11 nm11 rfl rfl rfl rfl rfl rfl rfl (by first | exact Or.inl ⟨_, rfl⟩ | exact Or.inr ⟨_, rfl⟩) (kK_100 hF) ?_
  rw [show up2 (pP 82 P) 100 82 (some 282) = pP 83 P from pP_a rfl]
  refine VW.aload_n (pc' := 532) d_Model_init_531 rfl rfl ?_
  refine VW.bipush (pc' := 534) d_Model_init_532 rfl (by decide) ?_
  refine VW.newI 283 (N := 24) (pc' := 536) d_Model_init_534 rfl kw_arrayClass_int rfl (by decide) (kK_f hF rfl (by decide)) (by decide) (by decide) ?_
  rw [kK_a rfl rfl]
  refine VW.pPF (ci := 11) (T := T11) (N := 94) (k := 83) (k' := 83) (ty := ty11) (pc' := 539) d_Model_init_536 rfl lk_Model_206 in11 tk11 nm11 rfl rfl rfl rfl rfl rfl rfl (by first | exact Or.inl ⟨_, rfl⟩ | exact Or.inr ⟨_, rfl⟩) (kK_100 hF) ?_
  rw [show up2 (pP 83 P) 100 83 (some 283) = pP 84 P from pP_a rfl]
  rw [← kK_s (m := 84) hF (by decide) rfl, ← pP_s (m := 84) hF rfl]
  refine VW.aload_n (pc' := 540) d_Model_init_539 rfl rfl ?_
  refine VW.iconst (pc' := 541) d_Model_init_540 rfl (by decide) ?_
  refine VW.newI 285 (N := 4) (pc' := 543) d_Model_init_541 rfl kw_arrayClass_int rfl (by decide) (kK_f hF rfl (by decide)) (by decide) (by decide) ?_
  rw [kK_a rfl rfl]
  refine VW.pPF (ci := 11) (T := T11) (N := 94) (k := 85) (k' := 85) (ty := ty11) (pc' := 546) d_Model_init_543 rfl lk_Model_209 in11 tk11 nm11 rfl rfl rfl rfl rfl rfl rfl (by first | exact Or.inl ⟨_, rfl⟩ | exact Or.inr ⟨_, rfl⟩) (kK_100 hF) ?_
  rw [show up2 (pP 85 P) 100 85 (some 285) = pP 86 P from pP_a rfl]
  refine VW.aload_n (pc' := 547) d_Model_init_546 rfl rfl ?_
  refine VW.iconst (pc' := 548) d_Model_init_547 rfl (by decide) ?_
  refine VW.newI 286 (N := 4) (pc' := 550) d_Model_init_548 rfl kw_arrayClass_int rfl (by decide) (kK_f hF rfl (by decide)) (by decide) (by decide) ?_
  rw [kK_a rfl rfl]
  refine VW.pPF (ci := 11) (T := T11) (N := 94) (k := 86) (k' := 86) (ty := ty11) (pc' := 553) d_Model_init_550 rfl lk_Model_212 in11 tk11 nm11 rfl rfl rfl rfl rfl rfl rfl (by first | exact Or.inl ⟨_, rfl⟩ | exact Or.inr ⟨_, rfl⟩) (kK_100 hF) ?_
  rw [show up2 (pP 86 P) 100 86 (some 286) = pP 87 P from pP_a rfl]
  refine VW.aload_n (pc' := 554) d_Model_init_553 rfl rfl ?_
  refine VW.iconst (pc' := 555) d_Model_init_554 rfl (by decide) ?_
  refine VW.newJ 287 (N := 4) (pc' := 557) d_Model_init_555 rfl kw_arrayClass_long rfl (by decide) (kK_f hF rfl (by decide)) (by decide) (by decide) ?_
  rw [kK_a rfl rfl]
  refine VW.pPF (ci := 11) (T := T11) (N := 94) (k := 87) (k' := 87) (ty := ty11) (pc' := 560) d_Model_init_557 rfl lk_Model_215 in11 tk11 nm11 rfl rfl rfl rfl rfl rfl rfl (by first | exact Or.inl ⟨_, rfl⟩ | exact Or.inr ⟨_, rfl⟩) (kK_100 hF) ?_
  rw [show up2 (pP 87 P) 100 87 (some 287) = pP 88 P from pP_a rfl]
  rw [← kK_s (m := 88) hF (by decide) rfl, ← pP_s (m := 88) hF rfl]
  refine VW.aload_n (pc' := 561) d_Model_init_560 rfl rfl ?_
  refine VW.bipush (pc' := 563) d_Model_init_561 rfl (by decide) ?_
  refine VW.newI 289 (N := 12) (pc' := 565) d_Model_init_563 rfl kw_arrayClass_int rfl (by decide) (kK_f hF rfl (by decide)) (by decide) (by decide) ?_
  rw [kK_a rfl rfl]
  refine VW.pPF (ci := 11) (T := T11) (N := 94) (k := 89) (k' := 89) (ty := ty11) (pc' := 568) d_Model_init_565 rfl lk_Model_219 in11 tk11 nm11 rfl rfl rfl rfl rfl rfl rfl (by first | exact Or.inl ⟨_, rfl⟩ | exact Or.inr ⟨_, rfl⟩) (kK_100 hF) ?_
  rw [show up2 (pP 89 P) 100 89 (some 289) = pP 90 P from pP_a rfl]
  refine VW.aload_n (pc' := 569) d_Model_init_568 rfl rfl ?_
  refine VW.bipush (pc' := 571) d_Model_init_569 rfl (by decide) ?_
  refine VW.newI 290 (N := 12) (pc' := 573) d_Model_init_571 rfl kw_arrayClass_int rfl (by decide) (kK_f hF rfl (by decide)) (by decide) (by decide) ?_
  rw [kK_a rfl rfl]
  refine VW.pPF (ci := 11) (T := T11) (N := 94) (k := 90) (k' := 90) (ty := ty11) (pc' := 576) d_Model_init_573 rfl lk_Model_222 in11 tk11 nm11 rfl rfl rfl rfl rfl rfl rfl (by first | exact Or.inl ⟨_, rfl⟩ | exact Or.inr ⟨_, rfl⟩) (kK_100 hF) ?_
  rw [show up2 (pP 90 P) 100 90 (some 290) = pP 91 P from pP_a rfl]
  refine VW.aload_n (pc' := 577) d_Model_init_576 rfl rfl ?_
  refine VW.bipush (pc' := 579) d_Model_init_577 rfl (by decide) ?_
  refine VW.newI 291 (N := 6) (pc' := 581) d_Model_init_579 rfl kw_arrayClass_int rfl (by decide) (kK_f hF rfl (by decide)) (by decide) (by decide) ?_
  rw [kK_a rfl rfl]
  refine VW.pPF (ci := 11) (T := T11) (N := 94) (k := 91) (k' := 91) (ty := ty11) (pc' := 584) d_Model_init_581 rfl lk_Model_225 in11 tk11 nm11 rfl rfl rfl rfl rfl rfl rfl (by first | exact Or.inl ⟨_, rfl⟩ | exact Or.inr ⟨_, rfl⟩) (kK_100 hF) ?_
  rw [show up2 (pP 91 P) 100 91 (some 291) = pP 92 P from pP_a rfl]
  refine VW.aload_n (pc' := 585) d_Model_init_584 rfl rfl ?_
  refine VW.bipush (pc' := 587) d_Model_init_585 rfl (by decide) ?_
  refine VW.newI 292 (N := 24) (pc' := 589) d_Model_init_587 rfl kw_arrayClass_int rfl (by decide) (kK_f hF rfl (by decide)) (by decide) (by decide) ?_
  rw [kK_a rfl rfl]
  refine VW.pPF (ci := 11) (T := T11) (N := 94) (k := 92) (k' := 92) (ty := ty11) (pc' := 592) d_Model_init_589 rfl lk_Model_228 in11 tk11 nm11 rfl rfl rfl rfl rfl rfl rfl (by first | exact Or.inl ⟨_, rfl⟩ | exact Or.inr ⟨_, rfl⟩) (kK_100 hF) ?_
  rw [show up2 (pP 92 P) 100 92 (some 292) = pP 93 P from pP_a rfl]
  rw [← kK_s (m := 93) hF (by decide) rfl, ← pP_s (m := 93) hF rfl]
  exact in_loop hF
theorem in_50 (hF : Fresh K P) : VW m_Model_init false ({ frames := 1, cells := 72, slots := 1535686, locals := 40 } : Room) (ex (kK 94 K) (pP 94 P) J (filI I 206 0 24 (-1)) (.inl none)) (kK 63 K) (pP 63 P) J I 50 335366 419 [(0, vR (some 100))] [] := by
  refine VW.aload_n (pc' := 420) d_Model_init_419 rfl rfl ?_
  refine VW.bipush (pc' := 422) d_Model_init_420 rfl (by decide) ?_
  refine VW.newZ 263 (N := 20) (pc' := 424) d_Model_init_422 rfl kw_arrayClass_boolean rfl (by decide) (kK_f hF rfl (by decide)) (by decide) (by decide) ?_
  rw [kK_a rfl rfl]
  refine VW.pPF (ci := 11) (T := T11) (N := 94) (k := 63) (k' := 63) (ty := ty11) (pc' := 427) d_Model_init_424 rfl lk_Model_162 in11 tk11 nm11 rfl rfl rfl rfl rfl rfl rfl (by first | exact Or.inl ⟨_, rfl⟩ | exact Or.inr ⟨_, rfl⟩) (kK_100 hF) ?_
  rw [show up2 (pP 63 P) 100 63 (some 263) = pP 64 P from pP_a rfl]
  refine VW.aload_n (pc' := 428) d_Model_init_427 rfl rfl ?_
  refine VW.bipush (pc' := 430) d_Model_init_428 rfl (by decide) ?_
  refine VW.newI 264 (N := 20) (pc' := 432) d_Model_init_430 rfl kw_arrayClass_int rfl (by decide) (kK_f hF rfl (by decide)) (by decide) (by decide) ?_
  rw [kK_a rfl rfl]
  refine VW.pPF (ci := 11) (T := T11) (N := 94) (k := 64) (k' := 64) (ty := ty11) (pc' := 435) d_Model_init_432 rfl lk_Model_165 in11 tk11 nm11 rfl rfl rfl rfl rfl rfl rfl (by first | exact Or.inl ⟨_, rfl⟩ | exact Or.inr ⟨_, rfl⟩) (kK_100 hF) ?_
  rw [show up2 (pP 64 P) 100 64 (some 264) = pP 65 P from pP_a rfl]
  refine VW.aload_n (pc' := 436) d_Model_init_435 rfl rfl ?_
  refine VW.bipush (pc' := 438) d_Model_init_436 rfl (by decide) ?_
  refine VW.newI 265 (N := 20) (pc' := 440) d_Model_init_438 rfl kw_arrayClass_int rfl (by decide) (kK_f hF rfl (by decide)) (by decide) (by decide) ?_
  rw [kK_a rfl rfl]
  refine VW.pPF (ci := 11) (T := T11) (N := 94) (k := 65) (k' := 65) (ty := ty11) (pc' := 443) d_Model_init_440 rfl lk_Model_168 in11 tk11 nm11 rfl rfl rfl rfl rfl rfl rfl (by first | exact Or.inl ⟨_, rfl⟩ | exact Or.inr ⟨_, rfl⟩) (kK_100 hF) ?_
  rw [show up2 (pP 65 P) 100 65 (some 265) = pP 66 P from pP_a rfl]
  refine VW.aload_n (pc' := 444) d_Model_init_443 rfl rfl ?_
  refine VW.bipush (pc' := 446) d_Model_init_444 rfl (by decide) ?_
  refine VW.newI 266 (N := 80) (pc' := 448) d_Model_init_446 rfl kw_arrayClass_int rfl (by decide) (kK_f hF rfl (by decide)) (by decide) (by decide) ?_
  rw [kK_a rfl rfl]
  refine VW.pPF (ci := 11) (T := T11) (N := 94) (k := 66) (k' := 66) (ty := ty11) (pc' := 451) d_Model_init_448 rfl lk_Model_171 in11 tk11 nm11 rfl rfl rfl rfl rfl rfl rfl (by first | exact Or.inl ⟨_, rfl⟩ | exact Or.inr ⟨_, rfl⟩) (kK_100 hF) ?_
  rw [show up2 (pP 66 P) 100 66 (some 266) = pP 67 P from pP_a rfl]
  rw [← kK_s (m := 67) hF (by decide) rfl, ← pP_s (m := 67) hF rfl]
  rw [← kK_s (m := 68) hF (by decide) rfl, ← pP_s (m := 68) hF rfl]
  refine VW.aload_n (pc' := 452) d_Model_init_451 rfl rfl ?_
  refine VW.bipush (pc' := 454) d_Model_init_452 rfl (by decide) ?_
  refine VW.newI 269 (N := 6) (pc' := 456) d_Model_init_454 rfl kw_arrayClass_int rfl (by decide) (kK_f hF rfl (by decide)) (by decide) (by decide) ?_
  rw [kK_a rfl rfl]
  refine VW.pPF (ci := 11) (T := T11) (N := 94) (k := 69) (k' := 69) (ty := ty11) (pc' := 459) d_Model_init_456 rfl lk_Model_174 in11 tk11 nm11 rfl rfl rfl rfl rfl rfl rfl (by first | exact Or.inl ⟨_, rfl⟩ | exact Or.inr ⟨_, rfl⟩) (kK_100 hF) ?_
  rw [show up2 (pP 69 P) 100 69 (some 269) = pP 70 P from pP_a rfl]
  refine VW.aload_n (pc' := 460) d_Model_init_459 rfl rfl ?_
  refine VW.ldc (pc' := 462) (z := 800000) d_Model_init_460 rfl lk_Model_177 (by decide) (by decide) ?_
  refine VW.newI 270 (N := 800000) (pc' := 464) d_Model_init_462 rfl kw_arrayClass_int rfl (by decide) (kK_f hF rfl (by decide)) (by decide) (by decide) ?_
  rw [kK_a rfl rfl]
  refine VW.pPF (ci := 11) (T := T11) (N := 94) (k := 70) (k' := 70) (ty := ty11) (pc' := 467) d_Model_init_464 rfl lk_Model_178 in11 tk11 nm11 rfl rfl rfl rfl rfl rfl rfl (by first | exact Or.inl ⟨_, rfl⟩ | exact Or.inr ⟨_, rfl⟩) (kK_100 hF) ?_
  rw [show up2 (pP 70 P) 100 70 (some 270) = pP 71 P from pP_a rfl]
  rw [← kK_s (m := 71) hF (by decide) rfl, ← pP_s (m := 71) hF rfl]
  refine VW.aload_n (pc' := 468) d_Model_init_467 rfl rfl ?_
  refine VW.bipush (pc' := 470) d_Model_init_468 rfl (by decide) ?_
  refine VW.newI 272 (N := 12) (pc' := 472) d_Model_init_470 rfl kw_arrayClass_int rfl (by decide) (kK_f hF rfl (by decide)) (by decide) (by decide) ?_
  rw [kK_a rfl rfl]
  refine VW.pPF (ci := 11) (T := T11) (N := 94) (k := 72) (k' := 72) (ty := ty11) (pc' := 475) d_Model_init_472 rfl lk_Model_181 in11 tk11 nm11 rfl rfl rfl rfl rfl rfl rfl (by first | exact Or.inl ⟨_, rfl⟩ | exact Or.inr ⟨_, rfl⟩) (kK_100 hF) ?_
  rw [show up2 (pP 72 P) 100 72 (some 272) = pP 73 P from pP_a rfl]
  refine VW.aload_n (pc' := 476) d_Model_init_475 rfl rfl ?_
  refine VW.bipush (pc' := 478) d_Model_init_476 rfl (by decide) ?_
  refine VW.newI 273 (N := 12) (pc' := 480) d_Model_init_478 rfl kw_arrayClass_int rfl (by decide) (kK_f hF rfl (by decide)) (by decide) (by decide) ?_
  rw [kK_a rfl rfl]
  refine VW.pPF (ci := 11) (T := T11) (N := 94) (k := 73) (k' := 73) (ty := ty11) (pc' := 483) d_Model_init_480 rfl lk_Model_184 in11 tk11 nm11 rfl rfl rfl rfl rfl rfl rfl (by first | exact Or.inl ⟨_, rfl⟩ | exact Or.inr ⟨_, rfl⟩) (kK_100 hF) ?_
  rw [show up2 (pP 73 P) 100 73 (some 273) = pP 74 P from pP_a rfl]
  refine VW.aload_n (pc' := 484) d_Model_init_483 rfl rfl ?_
  refine VW.bipush (pc' := 486) d_Model_init_484 rfl (by decide) ?_
  refine VW.newI 274 (N := 12) (pc' := 488) d_Model_init_486 rfl kw_arrayClass_int rfl (by decide) (kK_f hF rfl (by decide)) (by decide) (by decide) ?_
  rw [kK_a rfl rfl]
  refine VW.pPF (ci := 11) (T := T11) (N := 94) (k := 74) (k' := 74) (ty := ty11) (pc' := 491) d_Model_init_488 rfl lk_Model_187 in11 tk11 nm11 rfl rfl rfl rfl rfl rfl rfl (by first | exact Or.inl ⟨_, rfl⟩ | exact Or.inr ⟨_, rfl⟩) (kK_100 hF) ?_
  rw [show up2 (pP 74 P) 100 74 (some 274) = pP 75 P from pP_a rfl]
  rw [← kK_s (m := 75) hF (by decide) rfl, ← pP_s (m := 75) hF rfl]
  refine VW.aload_n (pc' := 492) d_Model_init_491 rfl rfl ?_
  refine VW.ldc (pc' := 494) (z := 400000) d_Model_init_492 rfl lk_Model_190 (by decide) (by decide) ?_
  refine VW.newI 276 (N := 400000) (pc' := 496) d_Model_init_494 rfl kw_arrayClass_int rfl (by decide) (kK_f hF rfl (by decide)) (by decide) (by decide) ?_
  rw [kK_a rfl rfl]
  refine VW.pPF (ci := 11) (T := T11) (N := 94) (k := 76) (k' := 76) (ty := ty11) (pc' := 499) d_Model_init_496 rfl lk_Model_191 in11 tk11 nm11 rfl rfl rfl rfl rfl rfl rfl (by first | exact Or.inl ⟨_, rfl⟩ | exact Or.inr ⟨_, rfl⟩) (kK_100 hF) ?_
  rw [show up2 (pP 76 P) 100 76 (some 276) = pP 77 P from pP_a rfl]
  rw [← kK_s (m := 77) hF (by decide) rfl, ← pP_s (m := 77) hF rfl]
  rw [← kK_s (m := 78) hF (by decide) rfl, ← pP_s (m := 78) hF rfl]
  refine VW.aload_n (pc' := 500) d_Model_init_499 rfl rfl ?_
  refine VW.bipush (pc' := 502) d_Model_init_500 rfl (by decide) ?_
  refine VW.newI 279 (N := 12) (pc' := 504) d_Model_init_502 rfl kw_arrayClass_int rfl (by decide) (kK_f hF rfl (by decide)) (by decide) (by decide) ?_
  rw [kK_a rfl rfl]
  refine VW.pPF (ci := 11) (T := T11) (N := 94) (k := 79) (k' := 79) (ty := ty11) (pc' := 507) d_Model_init_504 rfl lk_Model_194 in11 tk11 nm11 rfl rfl rfl rfl rfl rfl rfl (by first | exact Or.inl ⟨_, rfl⟩ | exact Or.inr ⟨_, rfl⟩) (kK_100 hF) ?_
  rw [show up2 (pP 79 P) 100 79 (some 279) = pP 80 P from pP_a rfl]
  exact in_61 hF
theorem in_39 (hF : Fresh K P) : VW m_Model_init false ({ frames := 1, cells := 72, slots := 1535686, locals := 40 } : Room) (ex (kK 94 K) (pP 94 P) J (filI I 206 0 24 (-1)) (.inl none)) (kK 47 K) (pP 47 P) J I 39 284922 323 [(0, vR (some 100))] [] := by
  refine VW.aload_n (pc' := 324) d_Model_init_323 rfl rfl ?_
  refine VW.sipush (pc' := 327) d_Model_init_324 rfl (by decide) ?_
  refine VW.newI 247 (N := 16384) (pc' := 329) d_Model_init_327 rfl kw_arrayClass_int rfl (by decide) (kK_f hF rfl (by decide)) (by decide) (by decide) ?_
  rw [kK_a rfl rfl]
  refine VW.pPF (ci := 11) (T := T11) (N := 94) (k := 47) (k' := 47) (ty := ty11) (pc' := 332) d_Model_init_329 rfl lk_Model_129 in11 tk11 nm11 rfl rfl rfl rfl rfl rfl rfl (by first | exact Or.inl ⟨_, rfl⟩ | exact Or.inr ⟨_, rfl⟩) (kK_100 hF) ?_
  rw [show up2 (pP 47 P) 100 47 (some 247) = pP 48 P from pP_a rfl]
  refine VW.aload_n (pc' := 333) d_Model_init_332 rfl rfl ?_
  refine VW.sipush (pc' := 336) d_Model_init_333 rfl (by decide) ?_
  refine VW.newI 248 (N := 16384) (pc' := 338) d_Model_init_336 rfl kw_arrayClass_int rfl (by decide) (kK_f hF rfl (by decide)) (by decide) (by decide) ?_
  rw [kK_a rfl rfl]
  refine VW.pPF (ci := 11) (T := T11) (N := 94) (k := 48) (k' := 48) (ty := ty11) (pc' := 341) d_Model_init_338 rfl lk_Model_132 in11 tk11 nm11 rfl rfl rfl rfl rfl rfl rfl (by first | exact Or.inl ⟨_, rfl⟩ | exact Or.inr ⟨_, rfl⟩) (kK_100 hF) ?_
  rw [show up2 (pP 48 P) 100 48 (some 248) = pP 49 P from pP_a rfl]
  refine VW.aload_n (pc' := 342) d_Model_init_341 rfl rfl ?_
  refine VW.sipush (pc' := 345) d_Model_init_342 rfl (by decide) ?_
  refine VW.newI 249 (N := 16384) (pc' := 347) d_Model_init_345 rfl kw_arrayClass_int rfl (by decide) (kK_f hF rfl (by decide)) (by decide) (by decide) ?_
  rw [kK_a rfl rfl]
  refine VW.pPF (ci := 11) (T := T11) (N := 94) (k := 49) (k' := 49) (ty := ty11) (pc' := 350) d_Model_init_347 rfl lk_Model_135 in11 tk11 nm11 rfl rfl rfl rfl rfl rfl rfl (by first | exact Or.inl ⟨_, rfl⟩ | exact Or.inr ⟨_, rfl⟩) (kK_100 hF) ?_
  rw [show up2 (pP 49 P) 100 49 (some 249) = pP 50 P from pP_a rfl]
  rw [← kK_s (m := 50) hF (by decide) rfl, ← pP_s (m := 50) hF rfl]
  rw [← kK_s (m := 51) hF (by decide) rfl, ← pP_s (m := 51) hF rfl]
  rw [← kK_s (m := 52) hF (by decide) rfl, ← pP_s (m := 52) hF rfl]
  refine VW.aload_n (pc' := 351) d_Model_init_350 rfl rfl ?_
  refine VW.bipush (pc' := 353) d_Model_init_351 rfl (by decide) ?_
  refine VW.newI 253 (N := 6) (pc' := 355) d_Model_init_353 rfl kw_arrayClass_int rfl (by decide) (kK_f hF rfl (by decide)) (by decide) (by decide) ?_
  rw [kK_a rfl rfl]
  refine VW.pPF (ci := 11) (T := T11) (N := 94) (k := 53) (k' := 53) (ty := ty11) (pc' := 358) d_Model_init_355 rfl lk_Model_138 in11 tk11 nm11 rfl rfl rfl rfl rfl rfl rfl (by first | exact Or.inl ⟨_, rfl⟩ | exact Or.inr ⟨_, rfl⟩) (kK_100 hF) ?_
  rw [show up2 (pP 53 P) 100 53 (some 253) = pP 54 P from pP_a rfl]
  refine VW.aload_n (pc' := 359) d_Model_init_358 rfl rfl ?_
  refine VW.bipush (pc' := 361) d_Model_init_359 rfl (by decide) ?_
  refine VW.newI 254 (N := 6) (pc' := 363) d_Model_init_361 rfl kw_arrayClass_int rfl (by decide) (kK_f hF rfl (by decide)) (by decide) (by decide) ?_
  rw [kK_a rfl rfl]
  refine VW.pPF (ci := 11) (T := T11) (N := 94) (k := 54) (k' := 54) (ty := ty11) (pc' := 366) d_Model_init_363 rfl lk_Model_141 in11 tk11 nm11 rfl rfl rfl rfl rfl rfl rfl (by first | exact Or.inl ⟨_, rfl⟩ | exact Or.inr ⟨_, rfl⟩) (kK_100 hF) ?_
  rw [show up2 (pP 54 P) 100 54 (some 254) = pP 55 P from pP_a rfl]
  rw [← kK_s (m := 55) hF (by decide) rfl, ← pP_s (m := 55) hF rfl]
  refine VW.aload_n (pc' := 367) d_Model_init_366 rfl rfl ?_
  refine VW.sipush (pc' := 370) d_Model_init_367 rfl (by decide) ?_
  refine VW.newI 256 (N := 252) (pc' := 372) d_Model_init_370 rfl kw_arrayClass_int rfl (by decide) (kK_f hF rfl (by decide)) (by decide) (by decide) ?_
  rw [kK_a rfl rfl]
  refine VW.pPF (ci := 11) (T := T11) (N := 94) (k := 56) (k' := 56) (ty := ty11) (pc' := 375) d_Model_init_372 rfl lk_Model_144 in11 tk11 nm11 rfl rfl rfl rfl rfl rfl rfl (by first | exact Or.inl ⟨_, rfl⟩ | exact Or.inr ⟨_, rfl⟩) (kK_100 hF) ?_
  rw [show up2 (pP 56 P) 100 56 (some 256) = pP 57 P from pP_a rfl]
  refine VW.aload_n (pc' := 376) d_Model_init_375 rfl rfl ?_
  refine VW.sipush (pc' := 379) d_Model_init_376 rfl (by decide) ?_
  refine VW.newI 257 (N := 252) (pc' := 381) d_Model_init_379 rfl kw_arrayClass_int rfl (by decide) (kK_f hF rfl (by decide)) (by decide) (by decide) ?_
  rw [kK_a rfl rfl]
  refine VW.pPF (ci := 11) (T := T11) (N := 94) (k := 57) (k' := 57) (ty := ty11) (pc' := 384) d_Model_init_381 rfl lk_Model_147 in11 tk11 nm11 rfl rfl rfl rfl rfl rfl rfl (by first | exact Or.inl ⟨_, rfl⟩ | exact Or.inr ⟨_, rfl⟩) (kK_100 hF) ?_
  rw [show up2 (pP 57 P) 100 57 (some 257) = pP 58 P from pP_a rfl]
  refine VW.aload_n (pc' := 385) d_Model_init_384 rfl rfl ?_
  refine VW.sipush (pc' := 388) d_Model_init_385 rfl (by decide) ?_
  refine VW.newI 258 (N := 252) (pc' := 390) d_Model_init_388 rfl kw_arrayClass_int rfl (by decide) (kK_f hF rfl (by decide)) (by decide) (by decide) ?_
  rw [kK_a rfl rfl]
  refine VW.pPF (ci := 11) (T := T11) (N := 94) (k := 58) (k' := 58) (ty := ty11) (pc' := 393) d_Model_init_390 rfl lk_Model_150 in11 tk11 nm11 rfl rfl rfl rfl rfl rfl rfl (by first | exact Or.inl ⟨_, rfl⟩ | exact Or.inr ⟨_, rfl⟩) (kK_100 hF) ?_
  rw [show up2 (pP 58 P) 100 58 (some 258) = pP 59 P from pP_a rfl]
  refine VW.aload_n (pc' := 394) d_Model_init_393 rfl rfl ?_
  refine VW.sipush (pc' := 397) d_Model_init_394 rfl (by decide) ?_
  refine VW.newI 259 (N := 252) (pc' := 399) d_Model_init_397 rfl kw_arrayClass_int rfl (by decide) (kK_f hF rfl (by decide)) (by decide) (by decide) ?_
  rw [kK_a rfl rfl]
  refine VW.pPF (ci := 11) (T := T11) (N := 94) (k := 59) (k' := 59) (ty := ty11) (pc' := 402) d_Model_init_399 rfl lk_Model_153 in11 tk11 nm11 rfl rfl rfl rfl rfl rfl rfl (by first | exact Or.inl ⟨_, rfl⟩ | exact Or.inr ⟨_, rfl⟩) (kK_100 hF) ?_
  rw [show up2 (pP 59 P) 100 59 (some 259) = pP 60 P from pP_a rfl]
  refine VW.aload_n (pc' := 403) d_Model_init_402 rfl rfl ?_
  refine VW.sipush (pc' := 406) d_Model_init_403 rfl (by decide) ?_
  refine VW.newZ 260 (N := 252) (pc' := 408) d_Model_init_406 rfl kw_arrayClass_boolean rfl (by decide) (kK_f hF rfl (by decide)) (by decide) (by decide) ?_
  rw [kK_a rfl rfl]
  refine VW.pPF (ci := 11) (T := T11) (N := 94) (k := 60) (k' := 60) (ty := ty11) (pc' := 411) d_Model_init_408 rfl lk_Model_156 in11 tk11 nm11 rfl rfl rfl rfl rfl rfl rfl (by first | exact Or.inl ⟨_, rfl⟩ | exact Or.inr ⟨_, rfl⟩) (kK_100 hF) ?_
  rw [show up2 (pP 60 P) 100 60 (some 260) = pP 61 P from pP_a rfl]
  rw [← kK_s (m := 61) hF (by decide) rfl, ← pP_s (m := 61) hF rfl]
  refine VW.aload_n (pc' := 412) d_Model_init_411 rfl rfl ?_
  refine VW.bipush (pc' := 414) d_Model_init_412 rfl (by decide) ?_
  refine VW.newI 262 (N := 20) (pc' := 416) d_Model_init_414 rfl kw_arrayClass_int rfl (by decide) (kK_f hF rfl (by decide)) (by decide) (by decide) ?_
  rw [kK_a rfl rfl]
  refine VW.pPF (ci := 11) (T := T11) (N := 94) (k := 62) (k' := 62) (ty := ty11) (pc' := 419) d_Model_init_416 rfl lk_Model_159 in11 tk11 nm11 rfl rfl rfl rfl rfl rfl rfl (by first | exact Or.inl ⟨_, rfl⟩ | exact Or.inr ⟨_, rfl⟩) (kK_100 hF) ?_
  rw [show up2 (pP 62 P) 100 62 (some 262) = pP 63 P from pP_a rfl]
  exact in_50 hF
theorem in_28 (hF : Fresh K P) : VW m_Model_init false ({ frames := 1, cells := 72, slots := 1535686, locals := 40 } : Room) (ex (kK 94 K) (pP 94 P) J (filI I 206 0 24 (-1)) (.inl none)) (kK 32 K) (pP 32 P) J I 28 20578 229 [(0, vR (some 100))] [] := by
  refine VW.aload_n (pc' := 230) d_Model_init_229 rfl rfl ?_
  refine VW.sipush (pc' := 233) d_Model_init_230 rfl (by decide) ?_
  refine VW.newI 232 (N := 240) (pc' := 235) d_Model_init_233 rfl kw_arrayClass_int rfl (by decide) (kK_f hF rfl (by decide)) (by decide) (by decide) ?_
  rw [kK_a rfl rfl]
  refine VW.pPF (ci := 11) (T := T11) (N := 94) (k := 32) (k' := 32) (ty := ty11) (pc' := 238) d_Model_init_235 rfl lk_Model_95 in11 tk11 nm11 rfl rfl rfl rfl rfl rfl rfl (by first | exact Or.inl ⟨_, rfl⟩ | exact Or.inr ⟨_, rfl⟩) (kK_100 hF) ?_
  rw [show up2 (pP 32 P) 100 32 (some 232) = pP 33 P from pP_a rfl]
  refine VW.aload_n (pc' := 239) d_Model_init_238 rfl rfl ?_
  refine VW.bipush (pc' := 241) d_Model_init_239 rfl (by decide) ?_
  refine VW.newI 233 (N := 60) (pc' := 243) d_Model_init_241 rfl kw_arrayClass_int rfl (by decide) (kK_f hF rfl (by decide)) (by decide) (by decide) ?_
  rw [kK_a rfl rfl]
  refine VW.pPF (ci := 11) (T := T11) (N := 94) (k := 33) (k' := 33) (ty := ty11) (pc' := 246) d_Model_init_243 rfl lk_Model_98 in11 tk11 nm11 rfl rfl rfl rfl rfl rfl rfl (by first | exact Or.inl ⟨_, rfl⟩ | exact Or.inr ⟨_, rfl⟩) (kK_100 hF) ?_
  rw [show up2 (pP 33 P) 100 33 (some 233) = pP 34 P from pP_a rfl]
  refine VW.aload_n (pc' := 247) d_Model_init_246 rfl rfl ?_
  refine VW.ldc (pc' := 249) (z := 122880) d_Model_init_247 rfl lk_Model_101 (by decide) (by decide) ?_
  refine VW.newI 234 (N := 122880) (pc' := 251) d_Model_init_249 rfl kw_arrayClass_int rfl (by decide) (kK_f hF rfl (by decide)) (by decide) (by decide) ?_
  rw [kK_a rfl rfl]
  refine VW.pPF (ci := 11) (T := T11) (N := 94) (k := 34) (k' := 34) (ty := ty11) (pc' := 254) d_Model_init_251 rfl lk_Model_102 in11 tk11 nm11 rfl rfl rfl rfl rfl rfl rfl (by first | exact Or.inl ⟨_, rfl⟩ | exact Or.inr ⟨_, rfl⟩) (kK_100 hF) ?_
  rw [show up2 (pP 34 P) 100 34 (some 234) = pP 35 P from pP_a rfl]
  refine VW.aload_n (pc' := 255) d_Model_init_254 rfl rfl ?_
  refine VW.ldc (pc' := 257) (z := 122880) d_Model_init_255 rfl lk_Model_101 (by decide) (by decide) ?_
  refine VW.newI 235 (N := 122880) (pc' := 259) d_Model_init_257 rfl kw_arrayClass_int rfl (by decide) (kK_f hF rfl (by decide)) (by decide) (by decide) ?_
  rw [kK_a rfl rfl]
  refine VW.pPF (ci := 11) (T := T11) (N := 94) (k := 35) (k' := 35) (ty := ty11) (pc' := 262) d_Model_init_259 rfl lk_Model_105 in11 tk11 nm11 rfl rfl rfl rfl rfl rfl rfl (by first | exact Or.inl ⟨_, rfl⟩ | exact Or.inr ⟨_, rfl⟩) (kK_100 hF) ?_
  rw [show up2 (pP 35 P) 100 35 (some 235) = pP 36 P from pP_a rfl]
  refine VW.aload_n (pc' := 263) d_Model_init_262 rfl rfl ?_
  refine VW.sipush (pc' := 266) d_Model_init_263 rfl (by decide) ?_
  refine VW.newZ 236 (N := 360) (pc' := 268) d_Model_init_266 rfl kw_arrayClass_boolean rfl (by decide) (kK_f hF rfl (by decide)) (by decide) (by decide) ?_
  rw [kK_a rfl rfl]
  refine VW.pPF (ci := 11) (T := T11) (N := 94) (k := 36) (k' := 36) (ty := ty11) (pc' := 271) d_Model_init_268 rfl lk_Model_108 in11 tk11 nm11 rfl rfl rfl rfl rfl rfl rfl (by first | exact Or.inl ⟨_, rfl⟩ | exact Or.inr ⟨_, rfl⟩) (kK_100 hF) ?_
  rw [show up2 (pP 36 P) 100 36 (some 236) = pP 37 P from pP_a rfl]
  rw [← kK_s (m := 37) hF (by decide) rfl, ← pP_s (m := 37) hF rfl]
  refine VW.aload_n (pc' := 272) d_Model_init_271 rfl rfl ?_
  refine VW.iconst (pc' := 273) d_Model_init_272 rfl (by decide) ?_
  refine VW.newI 238 (N := 4) (pc' := 275) d_Model_init_273 rfl kw_arrayClass_int rfl (by decide) (kK_f hF rfl (by decide)) (by decide) (by decide) ?_
  rw [kK_a rfl rfl]
  refine VW.pPF (ci := 11) (T := T11) (N := 94) (k := 38) (k' := 38) (ty := ty11) (pc' := 278) d_Model_init_275 rfl lk_Model_111 in11 tk11 nm11 rfl rfl rfl rfl rfl rfl rfl (by first | exact Or.inl ⟨_, rfl⟩ | exact Or.inr ⟨_, rfl⟩) (kK_100 hF) ?_
  rw [show up2 (pP 38 P) 100 38 (some 238) = pP 39 P from pP_a rfl]
  refine VW.aload_n (pc' := 279) d_Model_init_278 rfl rfl ?_
  refine VW.sipush (pc' := 282) d_Model_init_279 rfl (by decide) ?_
  refine VW.newZ 239 (N := 384) (pc' := 284) d_Model_init_282 rfl kw_arrayClass_boolean rfl (by decide) (kK_f hF rfl (by decide)) (by decide) (by decide) ?_
  rw [kK_a rfl rfl]
  refine VW.pPF (ci := 11) (T := T11) (N := 94) (k := 39) (k' := 39) (ty := ty11) (pc' := 287) d_Model_init_284 rfl lk_Model_114 in11 tk11 nm11 rfl rfl rfl rfl rfl rfl rfl (by first | exact Or.inl ⟨_, rfl⟩ | exact Or.inr ⟨_, rfl⟩) (kK_100 hF) ?_
  rw [show up2 (pP 39 P) 100 39 (some 239) = pP 40 P from pP_a rfl]
  refine VW.aload_n (pc' := 288) d_Model_init_287 rfl rfl ?_
  refine VW.sipush (pc' := 291) d_Model_init_288 rfl (by decide) ?_
  refine VW.newZ 240 (N := 384) (pc' := 293) d_Model_init_291 rfl kw_arrayClass_boolean rfl (by decide) (kK_f hF rfl (by decide)) (by decide) (by decide) ?_
  rw [kK_a rfl rfl]
  refine VW.pPF (ci := 11) (T := T11) (N := 94) (k := 40) (k' := 40) (ty := ty11) (pc' := 296) d_Model_init_293 rfl lk_Model_117 in11 tk11 nm11 rfl rfl rfl rfl rfl rfl rfl (by first | exact Or.inl ⟨_, rfl⟩ | exact Or.inr ⟨_, rfl⟩) (kK_100 hF) ?_
  rw [show up2 (pP 40 P) 100 40 (some 240) = pP 41 P from pP_a rfl]
  rw [← kK_s (m := 41) hF (by decide) rfl, ← pP_s (m := 41) hF rfl]
  refine VW.aload_n (pc' := 297) d_Model_init_296 rfl rfl ?_
  refine VW.sipush (pc' := 300) d_Model_init_297 rfl (by decide) ?_
  refine VW.newI 242 (N := 384) (pc' := 302) d_Model_init_300 rfl kw_arrayClass_int rfl (by decide) (kK_f hF rfl (by decide)) (by decide) (by decide) ?_
  rw [kK_a rfl rfl]
  refine VW.pPF (ci := 11) (T := T11) (N := 94) (k := 42) (k' := 42) (ty := ty11) (pc' := 305) d_Model_init_302 rfl lk_Model_120 in11 tk11 nm11 rfl rfl rfl rfl rfl rfl rfl (by first | exact Or.inl ⟨_, rfl⟩ | exact Or.inr ⟨_, rfl⟩) (kK_100 hF) ?_
  rw [show up2 (pP 42 P) 100 42 (some 242) = pP 43 P from pP_a rfl]
  refine VW.aload_n (pc' := 306) d_Model_init_305 rfl rfl ?_
  refine VW.sipush (pc' := 309) d_Model_init_306 rfl (by decide) ?_
  refine VW.newI 243 (N := 384) (pc' := 311) d_Model_init_309 rfl kw_arrayClass_int rfl (by decide) (kK_f hF rfl (by decide)) (by decide) (by decide) ?_
  rw [kK_a rfl rfl]
  refine VW.pPF (ci := 11) (T := T11) (N := 94) (k := 43) (k' := 43) (ty := ty11) (pc' := 314) d_Model_init_311 rfl lk_Model_123 in11 tk11 nm11 rfl rfl rfl rfl rfl rfl rfl (by first | exact Or.inl ⟨_, rfl⟩ | exact Or.inr ⟨_, rfl⟩) (kK_100 hF) ?_
  rw [show up2 (pP 43 P) 100 43 (some 243) = pP 44 P from pP_a rfl]
  rw [← kK_s (m := 44) hF (by decide) rfl, ← pP_s (m := 44) hF rfl]
  rw [← kK_s (m := 45) hF (by decide) rfl, ← pP_s (m := 45) hF rfl]
  refine VW.aload_n (pc' := 315) d_Model_init_314 rfl rfl ?_
  refine VW.sipush (pc' := 318) d_Model_init_315 rfl (by decide) ?_
  refine VW.newI 246 (N := 16384) (pc' := 320) d_Model_init_318 rfl kw_arrayClass_int rfl (by decide) (kK_f hF rfl (by decide)) (by decide) (by decide) ?_
  rw [kK_a rfl rfl]
  refine VW.pPF (ci := 11) (T := T11) (N := 94) (k := 46) (k' := 46) (ty := ty11) (pc' := 323) d_Model_init_320 rfl lk_Model_126 in11 tk11 nm11 rfl rfl rfl rfl rfl rfl rfl (by first | exact Or.inl ⟨_, rfl⟩ | exact Or.inr ⟨_, rfl⟩) (kK_100 hF) ?_
  rw [show up2 (pP 46 P) 100 46 (some 246) = pP 47 P from pP_a rfl]
  exact in_39 hF
theorem in_17 (hF : Fresh K P) : VW m_Model_init false ({ frames := 1, cells := 72, slots := 1535686, locals := 40 } : Room) (ex (kK 94 K) (pP 94 P) J (filI I 206 0 24 (-1)) (.inl none)) (kK 21 K) (pP 21 P) J I 17 19974 142 [(0, vR (some 100))] [] := by
  refine VW.aload_n (pc' := 143) d_Model_init_142 rfl rfl ?_
  refine VW.bipush (pc' := 145) d_Model_init_143 rfl (by decide) ?_
  refine VW.newI 221 (N := 60) (pc' := 147) d_Model_init_145 rfl kw_arrayClass_int rfl (by decide) (kK_f hF rfl (by decide)) (by decide) (by decide) ?_
  rw [kK_a rfl rfl]
  refine VW.pPF (ci := 11) (T := T11) (N := 94) (k := 21) (k' := 21) (ty := ty11) (pc' := 150) d_Model_init_147 rfl lk_Model_61 in11 tk11 nm11 rfl rfl rfl rfl rfl rfl rfl (by first | exact Or.inl ⟨_, rfl⟩ | exact Or.inr ⟨_, rfl⟩) (kK_100 hF) ?_
  rw [show up2 (pP 21 P) 100 21 (some 221) = pP 22 P from pP_a rfl]
  refine VW.aload_n (pc' := 151) d_Model_init_150 rfl rfl ?_
  refine VW.bipush (pc' := 153) d_Model_init_151 rfl (by decide) ?_
  refine VW.newI 222 (N := 60) (pc' := 155) d_Model_init_153 rfl kw_arrayClass_int rfl (by decide) (kK_f hF rfl (by decide)) (by decide) (by decide) ?_
  rw [kK_a rfl rfl]
  refine VW.pPF (ci := 11) (T := T11) (N := 94) (k := 22) (k' := 22) (ty := ty11) (pc' := 158) d_Model_init_155 rfl lk_Model_64 in11 tk11 nm11 rfl rfl rfl rfl rfl rfl rfl (by first | exact Or.inl ⟨_, rfl⟩ | exact Or.inr ⟨_, rfl⟩) (kK_100 hF) ?_
  rw [show up2 (pP 22 P) 100 22 (some 222) = pP 23 P from pP_a rfl]
  refine VW.aload_n (pc' := 159) d_Model_init_158 rfl rfl ?_
  refine VW.bipush (pc' := 161) d_Model_init_159 rfl (by decide) ?_
  refine VW.newI 223 (N := 60) (pc' := 163) d_Model_init_161 rfl kw_arrayClass_int rfl (by decide) (kK_f hF rfl (by decide)) (by decide) (by decide) ?_
  rw [kK_a rfl rfl]
  refine VW.pPF (ci := 11) (T := T11) (N := 94) (k := 23) (k' := 23) (ty := ty11) (pc' := 166) d_Model_init_163 rfl lk_Model_67 in11 tk11 nm11 rfl rfl rfl rfl rfl rfl rfl (by first | exact Or.inl ⟨_, rfl⟩ | exact Or.inr ⟨_, rfl⟩) (kK_100 hF) ?_
  rw [show up2 (pP 23 P) 100 23 (some 223) = pP 24 P from pP_a rfl]
  refine VW.aload_n (pc' := 167) d_Model_init_166 rfl rfl ?_
  refine VW.bipush (pc' := 169) d_Model_init_167 rfl (by decide) ?_
  refine VW.newI 224 (N := 60) (pc' := 171) d_Model_init_169 rfl kw_arrayClass_int rfl (by decide) (kK_f hF rfl (by decide)) (by decide) (by decide) ?_
  rw [kK_a rfl rfl]
  refine VW.pPF (ci := 11) (T := T11) (N := 94) (k := 24) (k' := 24) (ty := ty11) (pc' := 174) d_Model_init_171 rfl lk_Model_70 in11 tk11 nm11 rfl rfl rfl rfl rfl rfl rfl (by first | exact Or.inl ⟨_, rfl⟩ | exact Or.inr ⟨_, rfl⟩) (kK_100 hF) ?_
  rw [show up2 (pP 24 P) 100 24 (some 224) = pP 25 P from pP_a rfl]
  refine VW.aload_n (pc' := 175) d_Model_init_174 rfl rfl ?_
  refine VW.bipush (pc' := 177) d_Model_init_175 rfl (by decide) ?_
  refine VW.newI 225 (N := 60) (pc' := 179) d_Model_init_177 rfl kw_arrayClass_int rfl (by decide) (kK_f hF rfl (by decide)) (by decide) (by decide) ?_
  rw [kK_a rfl rfl]
  refine VW.pPF (ci := 11) (T := T11) (N := 94) (k := 25) (k' := 25) (ty := ty11) (pc' := 182) d_Model_init_179 rfl lk_Model_73 in11 tk11 nm11 rfl rfl rfl rfl rfl rfl rfl (by first | exact Or.inl ⟨_, rfl⟩ | exact Or.inr ⟨_, rfl⟩) (kK_100 hF) ?_
  rw [show up2 (pP 25 P) 100 25 (some 225) = pP 26 P from pP_a rfl]
  refine VW.aload_n (pc' := 183) d_Model_init_182 rfl rfl ?_
  refine VW.iconst (pc' := 184) d_Model_init_183 rfl (by decide) ?_
  refine VW.newZ 226 (N := 4) (pc' := 186) d_Model_init_184 rfl kw_arrayClass_boolean rfl (by decide) (kK_f hF rfl (by decide)) (by decide) (by decide) ?_
  rw [kK_a rfl rfl]
  refine VW.pPF (ci := 11) (T := T11) (N := 94) (k := 26) (k' := 26) (ty := ty11) (pc' := 189) d_Model_init_186 rfl lk_Model_76 in11 tk11 nm11 rfl rfl rfl rfl rfl rfl rfl (by first | exact Or.inl ⟨_, rfl⟩ | exact Or.inr ⟨_, rfl⟩) (kK_100 hF) ?_
  rw [show up2 (pP 26 P) 100 26 (some 226) = pP 27 P from pP_a rfl]
  refine VW.aload_n (pc' := 190) d_Model_init_189 rfl rfl ?_
  refine VW.bipush (pc' := 192) d_Model_init_190 rfl (by decide) ?_
  refine VW.newI 227 (N := 60) (pc' := 194) d_Model_init_192 rfl kw_arrayClass_int rfl (by decide) (kK_f hF rfl (by decide)) (by decide) (by decide) ?_
  rw [kK_a rfl rfl]
  refine VW.pPF (ci := 11) (T := T11) (N := 94) (k := 27) (k' := 27) (ty := ty11) (pc' := 197) d_Model_init_194 rfl lk_Model_80 in11 tk11 nm11 rfl rfl rfl rfl rfl rfl rfl (by first | exact Or.inl ⟨_, rfl⟩ | exact Or.inr ⟨_, rfl⟩) (kK_100 hF) ?_
  rw [show up2 (pP 27 P) 100 27 (some 227) = pP 28 P from pP_a rfl]
  refine VW.aload_n (pc' := 198) d_Model_init_197 rfl rfl ?_
  refine VW.bipush (pc' := 200) d_Model_init_198 rfl (by decide) ?_
  refine VW.newI 228 (N := 60) (pc' := 202) d_Model_init_200 rfl kw_arrayClass_int rfl (by decide) (kK_f hF rfl (by decide)) (by decide) (by decide) ?_
  rw [kK_a rfl rfl]
  refine VW.pPF (ci := 11) (T := T11) (N := 94) (k := 28) (k' := 28) (ty := ty11) (pc' := 205) d_Model_init_202 rfl lk_Model_83 in11 tk11 nm11 rfl rfl rfl rfl rfl rfl rfl (by first | exact Or.inl ⟨_, rfl⟩ | exact Or.inr ⟨_, rfl⟩) (kK_100 hF) ?_
  rw [show up2 (pP 28 P) 100 28 (some 228) = pP 29 P from pP_a rfl]
  refine VW.aload_n (pc' := 206) d_Model_init_205 rfl rfl ?_
  refine VW.bipush (pc' := 208) d_Model_init_206 rfl (by decide) ?_
  refine VW.newI 229 (N := 60) (pc' := 210) d_Model_init_208 rfl kw_arrayClass_int rfl (by decide) (kK_f hF rfl (by decide)) (by decide) (by decide) ?_
  rw [kK_a rfl rfl]
  refine VW.pPF (ci := 11) (T := T11) (N := 94) (k := 29) (k' := 29) (ty := ty11) (pc' := 213) d_Model_init_210 rfl lk_Model_86 in11 tk11 nm11 rfl rfl rfl rfl rfl rfl rfl (by first | exact Or.inl ⟨_, rfl⟩ | exact Or.inr ⟨_, rfl⟩) (kK_100 hF) ?_
  rw [show up2 (pP 29 P) 100 29 (some 229) = pP 30 P from pP_a rfl]
  refine VW.aload_n (pc' := 214) d_Model_init_213 rfl rfl ?_
  refine VW.bipush (pc' := 216) d_Model_init_214 rfl (by decide) ?_
  refine VW.newI 230 (N := 60) (pc' := 218) d_Model_init_216 rfl kw_arrayClass_int rfl (by decide) (kK_f hF rfl (by decide)) (by decide) (by decide) ?_
  rw [kK_a rfl rfl]
  refine VW.pPF (ci := 11) (T := T11) (N := 94) (k := 30) (k' := 30) (ty := ty11) (pc' := 221) d_Model_init_218 rfl lk_Model_89 in11 tk11 nm11 rfl rfl rfl rfl rfl rfl rfl (by first | exact Or.inl ⟨_, rfl⟩ | exact Or.inr ⟨_, rfl⟩) (kK_100 hF) ?_
  rw [show up2 (pP 30 P) 100 30 (some 230) = pP 31 P from pP_a rfl]
  refine VW.aload_n (pc' := 222) d_Model_init_221 rfl rfl ?_
  refine VW.bipush (pc' := 224) d_Model_init_222 rfl (by decide) ?_
  refine VW.newI 231 (N := 60) (pc' := 226) d_Model_init_224 rfl kw_arrayClass_int rfl (by decide) (kK_f hF rfl (by decide)) (by decide) (by decide) ?_
  rw [kK_a rfl rfl]
  refine VW.pPF (ci := 11) (T := T11) (N := 94) (k := 31) (k' := 31) (ty := ty11) (pc' := 229) d_Model_init_226 rfl lk_Model_92 in11 tk11 nm11 rfl rfl rfl rfl rfl rfl rfl (by first | exact Or.inl ⟨_, rfl⟩ | exact Or.inr ⟨_, rfl⟩) (kK_100 hF) ?_
  rw [show up2 (pP 31 P) 100 31 (some 231) = pP 32 P from pP_a rfl]
  exact in_28 hF
theorem in_6 (hF : Fresh K P) : VW m_Model_init false ({ frames := 1, cells := 72, slots := 1535686, locals := 40 } : Room) (ex (kK 94 K) (pP 94 P) J (filI I 206 0 24 (-1)) (.inl none)) (kK 7 K) (pP 7 P) J I 6 108 52 [(0, vR (some 100))] [] := by
  refine VW.aload_n (pc' := 53) d_Model_init_52 rfl rfl ?_
  refine VW.bipush (pc' := 55) d_Model_init_53 rfl (by decide) ?_
  refine VW.newI 207 (N := 24) (pc' := 57) d_Model_init_55 rfl kw_arrayClass_int rfl (by decide) (kK_f hF rfl (by decide)) (by decide) (by decide) ?_
  rw [kK_a rfl rfl]
  refine VW.pPF (ci := 11) (T := T11) (N := 94) (k := 7) (k' := 7) (ty := ty11) (pc' := 60) d_Model_init_57 rfl lk_Model_28 in11 tk11 nm11 rfl rfl rfl rfl rfl rfl rfl (by first | exact Or.inl ⟨_, rfl⟩ | exact Or.inr ⟨_, rfl⟩) (kK_100 hF) ?_
  rw [show up2 (pP 7 P) 100 7 (some 207) = pP 8 P from pP_a rfl]
  rw [← kK_s (m := 8) hF (by decide) rfl, ← pP_s (m := 8) hF rfl]
  refine VW.aload_n (pc' := 61) d_Model_init_60 rfl rfl ?_
  refine VW.bipush (pc' := 63) d_Model_init_61 rfl (by decide) ?_
  refine VW.newI 209 (N := 12) (pc' := 65) d_Model_init_63 rfl kw_arrayClass_int rfl (by decide) (kK_f hF rfl (by decide)) (by decide) (by decide) ?_
  rw [kK_a rfl rfl]
  refine VW.pPF (ci := 11) (T := T11) (N := 94) (k := 9) (k' := 9) (ty := ty11) (pc' := 68) d_Model_init_65 rfl lk_Model_31 in11 tk11 nm11 rfl rfl rfl rfl rfl rfl rfl (by first | exact Or.inl ⟨_, rfl⟩ | exact Or.inr ⟨_, rfl⟩) (kK_100 hF) ?_
  rw [show up2 (pP 9 P) 100 9 (some 209) = pP 10 P from pP_a rfl]
  refine VW.aload_n (pc' := 69) d_Model_init_68 rfl rfl ?_
  refine VW.bipush (pc' := 71) d_Model_init_69 rfl (by decide) ?_
  refine VW.newI 210 (N := 12) (pc' := 73) d_Model_init_71 rfl kw_arrayClass_int rfl (by decide) (kK_f hF rfl (by decide)) (by decide) (by decide) ?_
  rw [kK_a rfl rfl]
  refine VW.pPF (ci := 11) (T := T11) (N := 94) (k := 10) (k' := 10) (ty := ty11) (pc' := 76) d_Model_init_73 rfl lk_Model_34 in11 tk11 nm11 rfl rfl rfl rfl rfl rfl rfl (by first | exact Or.inl ⟨_, rfl⟩ | exact Or.inr ⟨_, rfl⟩) (kK_100 hF) ?_
  rw [show up2 (pP 10 P) 100 10 (some 210) = pP 11 P from pP_a rfl]
  refine VW.aload_n (pc' := 77) d_Model_init_76 rfl rfl ?_
  refine VW.bipush (pc' := 79) d_Model_init_77 rfl (by decide) ?_
  refine VW.newI 211 (N := 12) (pc' := 81) d_Model_init_79 rfl kw_arrayClass_int rfl (by decide) (kK_f hF rfl (by decide)) (by decide) (by decide) ?_
  rw [kK_a rfl rfl]
  refine VW.pPF (ci := 11) (T := T11) (N := 94) (k := 11) (k' := 11) (ty := ty11) (pc' := 84) d_Model_init_81 rfl lk_Model_37 in11 tk11 nm11 rfl rfl rfl rfl rfl rfl rfl (by first | exact Or.inl ⟨_, rfl⟩ | exact Or.inr ⟨_, rfl⟩) (kK_100 hF) ?_
  rw [show up2 (pP 11 P) 100 11 (some 211) = pP 12 P from pP_a rfl]
  refine VW.aload_n (pc' := 85) d_Model_init_84 rfl rfl ?_
  refine VW.bipush (pc' := 87) d_Model_init_85 rfl (by decide) ?_
  refine VW.newI 212 (N := 12) (pc' := 89) d_Model_init_87 rfl kw_arrayClass_int rfl (by decide) (kK_f hF rfl (by decide)) (by decide) (by decide) ?_
  rw [kK_a rfl rfl]
  refine VW.pPF (ci := 11) (T := T11) (N := 94) (k := 12) (k' := 12) (ty := ty11) (pc' := 92) d_Model_init_89 rfl lk_Model_40 in11 tk11 nm11 rfl rfl rfl rfl rfl rfl rfl (by first | exact Or.inl ⟨_, rfl⟩ | exact Or.inr ⟨_, rfl⟩) (kK_100 hF) ?_
  rw [show up2 (pP 12 P) 100 12 (some 212) = pP 13 P from pP_a rfl]
  refine VW.aload_n (pc' := 93) d_Model_init_92 rfl rfl ?_
  refine VW.bipush (pc' := 95) d_Model_init_93 rfl (by decide) ?_
  refine VW.newI 213 (N := 12) (pc' := 97) d_Model_init_95 rfl kw_arrayClass_int rfl (by decide) (kK_f hF rfl (by decide)) (by decide) (by decide) ?_
  rw [kK_a rfl rfl]
  refine VW.pPF (ci := 11) (T := T11) (N := 94) (k := 13) (k' := 13) (ty := ty11) (pc' := 100) d_Model_init_97 rfl lk_Model_43 in11 tk11 nm11 rfl rfl rfl rfl rfl rfl rfl (by first | exact Or.inl ⟨_, rfl⟩ | exact Or.inr ⟨_, rfl⟩) (kK_100 hF) ?_
  rw [show up2 (pP 13 P) 100 13 (some 213) = pP 14 P from pP_a rfl]
  refine VW.aload_n (pc' := 101) d_Model_init_100 rfl rfl ?_
  refine VW.bipush (pc' := 103) d_Model_init_101 rfl (by decide) ?_
  refine VW.newI 214 (N := 30) (pc' := 105) d_Model_init_103 rfl kw_arrayClass_int rfl (by decide) (kK_f hF rfl (by decide)) (by decide) (by decide) ?_
  rw [kK_a rfl rfl]
  refine VW.pPF (ci := 11) (T := T11) (N := 94) (k := 14) (k' := 14) (ty := ty11) (pc' := 108) d_Model_init_105 rfl lk_Model_46 in11 tk11 nm11 rfl rfl rfl rfl rfl rfl rfl (by first | exact Or.inl ⟨_, rfl⟩ | exact Or.inr ⟨_, rfl⟩) (kK_100 hF) ?_
  rw [show up2 (pP 14 P) 100 14 (some 214) = pP 15 P from pP_a rfl]
  refine VW.aload_n (pc' := 109) d_Model_init_108 rfl rfl ?_
  refine VW.sipush (pc' := 112) d_Model_init_109 rfl (by decide) ?_
  refine VW.newI 215 (N := 7680) (pc' := 114) d_Model_init_112 rfl kw_arrayClass_int rfl (by decide) (kK_f hF rfl (by decide)) (by decide) (by decide) ?_
  rw [kK_a rfl rfl]
  refine VW.pPF (ci := 11) (T := T11) (N := 94) (k := 15) (k' := 15) (ty := ty11) (pc' := 117) d_Model_init_114 rfl lk_Model_49 in11 tk11 nm11 rfl rfl rfl rfl rfl rfl rfl (by first | exact Or.inl ⟨_, rfl⟩ | exact Or.inr ⟨_, rfl⟩) (kK_100 hF) ?_
  rw [show up2 (pP 15 P) 100 15 (some 215) = pP 16 P from pP_a rfl]
  rw [← kK_s (m := 16) hF (by decide) rfl, ← pP_s (m := 16) hF rfl]
  refine VW.aload_n (pc' := 118) d_Model_init_117 rfl rfl ?_
  refine VW.sipush (pc' := 121) d_Model_init_118 rfl (by decide) ?_
  refine VW.newI 217 (N := 12006) (pc' := 123) d_Model_init_121 rfl kw_arrayClass_int rfl (by decide) (kK_f hF rfl (by decide)) (by decide) (by decide) ?_
  rw [kK_a rfl rfl]
  refine VW.pPF (ci := 11) (T := T11) (N := 94) (k := 17) (k' := 17) (ty := ty11) (pc' := 126) d_Model_init_123 rfl lk_Model_52 in11 tk11 nm11 rfl rfl rfl rfl rfl rfl rfl (by first | exact Or.inl ⟨_, rfl⟩ | exact Or.inr ⟨_, rfl⟩) (kK_100 hF) ?_
  rw [show up2 (pP 17 P) 100 17 (some 217) = pP 18 P from pP_a rfl]
  refine VW.aload_n (pc' := 127) d_Model_init_126 rfl rfl ?_
  refine VW.bipush (pc' := 129) d_Model_init_127 rfl (by decide) ?_
  refine VW.newI 218 (N := 6) (pc' := 131) d_Model_init_129 rfl kw_arrayClass_int rfl (by decide) (kK_f hF rfl (by decide)) (by decide) (by decide) ?_
  rw [kK_a rfl rfl]
  refine VW.pPF (ci := 11) (T := T11) (N := 94) (k := 18) (k' := 18) (ty := ty11) (pc' := 134) d_Model_init_131 rfl lk_Model_55 in11 tk11 nm11 rfl rfl rfl rfl rfl rfl rfl (by first | exact Or.inl ⟨_, rfl⟩ | exact Or.inr ⟨_, rfl⟩) (kK_100 hF) ?_
  rw [show up2 (pP 18 P) 100 18 (some 218) = pP 19 P from pP_a rfl]
  rw [← kK_s (m := 19) hF (by decide) rfl, ← pP_s (m := 19) hF rfl]
  refine VW.aload_n (pc' := 135) d_Model_init_134 rfl rfl ?_
  refine VW.bipush (pc' := 137) d_Model_init_135 rfl (by decide) ?_
  refine VW.newI 220 (N := 60) (pc' := 139) d_Model_init_137 rfl kw_arrayClass_int rfl (by decide) (kK_f hF rfl (by decide)) (by decide) (by decide) ?_
  rw [kK_a rfl rfl]
  refine VW.pPF (ci := 11) (T := T11) (N := 94) (k := 20) (k' := 20) (ty := ty11) (pc' := 142) d_Model_init_139 rfl lk_Model_58 in11 tk11 nm11 rfl rfl rfl rfl rfl rfl rfl (by first | exact Or.inl ⟨_, rfl⟩ | exact Or.inr ⟨_, rfl⟩) (kK_100 hF) ?_
  rw [show up2 (pP 20 P) 100 20 (some 220) = pP 21 P from pP_a rfl]
  exact in_17 hF
theorem in_0 (hF : Fresh K P) : VW m_Model_init false ({ frames := 1, cells := 72, slots := 1535686, locals := 40 } : Room) (ex (kK 94 K) (pP 94 P) J (filI I 206 0 24 (-1)) (.inl none)) (kK 1 K) (pP 1 P) J I 0 0 4 [(0, vR (some 100))] [] := by
  refine VW.aload_n (pc' := 5) d_Model_init_4 rfl rfl ?_
  refine VW.bipush (pc' := 7) d_Model_init_5 rfl (by decide) ?_
  refine VW.newI 201 (N := 6) (pc' := 9) d_Model_init_7 rfl kw_arrayClass_int rfl (by decide) (kK_f hF rfl (by decide)) (by decide) (by decide) ?_
  rw [kK_a rfl rfl]
  refine VW.pPF (ci := 11) (T := T11) (N := 94) (k := 1) (k' := 1) (ty := ty11) (pc' := 12) d_Model_init_9 rfl lk_Model_7 in11 tk11 nm11 rfl rfl rfl rfl rfl rfl rfl (by first | exact Or.inl ⟨_, rfl⟩ | exact Or.inr ⟨_, rfl⟩) (kK_100 hF) ?_
  rw [show up2 (pP 1 P) 100 1 (some 201) = pP 2 P from pP_a rfl]
  refine VW.aload_n (pc' := 13) d_Model_init_12 rfl rfl ?_
  refine VW.bipush (pc' := 15) d_Model_init_13 rfl (by decide) ?_
  refine VW.newI 202 (N := 6) (pc' := 17) d_Model_init_15 rfl kw_arrayClass_int rfl (by decide) (kK_f hF rfl (by decide)) (by decide) (by decide) ?_
  rw [kK_a rfl rfl]
  refine VW.pPF (ci := 11) (T := T11) (N := 94) (k := 2) (k' := 2) (ty := ty11) (pc' := 20) d_Model_init_17 rfl lk_Model_13 in11 tk11 nm11 rfl rfl rfl rfl rfl rfl rfl (by first | exact Or.inl ⟨_, rfl⟩ | exact Or.inr ⟨_, rfl⟩) (kK_100 hF) ?_
  rw [show up2 (pP 2 P) 100 2 (some 202) = pP 3 P from pP_a rfl]
  refine VW.aload_n (pc' := 21) d_Model_init_20 rfl rfl ?_
  refine VW.bipush (pc' := 23) d_Model_init_21 rfl (by decide) ?_
  refine VW.newI 203 (N := 24) (pc' := 25) d_Model_init_23 rfl kw_arrayClass_int rfl (by decide) (kK_f hF rfl (by decide)) (by decide) (by decide) ?_
  rw [kK_a rfl rfl]
  refine VW.pPF (ci := 11) (T := T11) (N := 94) (k := 3) (k' := 3) (ty := ty11) (pc' := 28) d_Model_init_25 rfl lk_Model_16 in11 tk11 nm11 rfl rfl rfl rfl rfl rfl rfl (by first | exact Or.inl ⟨_, rfl⟩ | exact Or.inr ⟨_, rfl⟩) (kK_100 hF) ?_
  rw [show up2 (pP 3 P) 100 3 (some 203) = pP 4 P from pP_a rfl]
  refine VW.aload_n (pc' := 29) d_Model_init_28 rfl rfl ?_
  refine VW.bipush (pc' := 31) d_Model_init_29 rfl (by decide) ?_
  refine VW.newI 204 (N := 24) (pc' := 33) d_Model_init_31 rfl kw_arrayClass_int rfl (by decide) (kK_f hF rfl (by decide)) (by decide) (by decide) ?_
  rw [kK_a rfl rfl]
  refine VW.pPF (ci := 11) (T := T11) (N := 94) (k := 4) (k' := 4) (ty := ty11) (pc' := 36) d_Model_init_33 rfl lk_Model_19 in11 tk11 nm11 rfl rfl rfl rfl rfl rfl rfl (by first | exact Or.inl ⟨_, rfl⟩ | exact Or.inr ⟨_, rfl⟩) (kK_100 hF) ?_
  rw [show up2 (pP 4 P) 100 4 (some 204) = pP 5 P from pP_a rfl]
  refine VW.aload_n (pc' := 37) d_Model_init_36 rfl rfl ?_
  refine VW.bipush (pc' := 39) d_Model_init_37 rfl (by decide) ?_
  refine VW.newI 205 (N := 24) (pc' := 41) d_Model_init_39 rfl kw_arrayClass_int rfl (by decide) (kK_f hF rfl (by decide)) (by decide) (by decide) ?_
  rw [kK_a rfl rfl]
  refine VW.pPF (ci := 11) (T := T11) (N := 94) (k := 5) (k' := 5) (ty := ty11) (pc' := 44) d_Model_init_41 rfl lk_Model_22 in11 tk11 nm11 rfl rfl rfl rfl rfl rfl rfl (by first | exact Or.inl ⟨_, rfl⟩ | exact Or.inr ⟨_, rfl⟩) (kK_100 hF) ?_
  rw [show up2 (pP 5 P) 100 5 (some 205) = pP 6 P from pP_a rfl]
  refine VW.aload_n (pc' := 45) d_Model_init_44 rfl rfl ?_
  refine VW.bipush (pc' := 47) d_Model_init_45 rfl (by decide) ?_
  refine VW.newI 206 (N := 24) (pc' := 49) d_Model_init_47 rfl kw_arrayClass_int rfl (by decide) (kK_f hF rfl (by decide)) (by decide) (by decide) ?_
  rw [kK_a rfl rfl]
  refine VW.pPF (ci := 11) (T := T11) (N := 94) (k := 6) (k' := 6) (ty := ty11) (pc' := 52) d_Model_init_49 rfl lk_Model_25 in11 tk11 nm11 rfl rfl rfl rfl rfl rfl rfl (by first | exact Or.inl ⟨_, rfl⟩ | exact Or.inr ⟨_, rfl⟩) (kK_100 hF) ?_
  rw [show up2 (pP 6 P) 100 6 (some 206) = pP 7 P from pP_a rfl]
  exact in_6 hF
theorem sp_Model_init (hF : Fresh K P) : Sp m_Model_init false ({ frames := 1, cells := 72, slots := 1535686, locals := 40 } : Room) (ex (kK 94 K) (pP 94 P) J (filI I 206 0 24 (-1)) (.inl none)) K P J I [vR (some 100)] := by
  refine Sp.ofV (by decide) (Or.inr rfl) rfl ?_
  have h := in_0 (J := J) (I := I) hF
  rw [kK_s (m := 0) hF (by decide) rfl, pP_s (m := 0) hF rfl] at h
  rw [kK_0, pP_0] at h
  refine VW.aload_n (pc' := 1) d_Model_init_0 rfl rfl ?_
  refine VW.objI (pc' := 4) d_Model_init_1 rfl lk_Model_1 rfl rfl rfl ?_
  exact h
end
