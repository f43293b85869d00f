/-! settling, as a whole -/
section
variable {K : KT} {P : PT} {J I S : IT} {n N g lq i : Nat} {lv mv : Nat → Nat} {q q' : Int} {Z : Int → IT → Prop} {X Y : Nat}
theorem mM_le (h : ER I S n N g lv mv q) : mM S n ≤ 24 := by
  have a := open4 h
  have b := cntI_le (g := mFreed S) (h := fun j => S 221 j < 2) n (fun j _ hj => by show S 221 j < 2; have := hj.1; omega)
  unfold mM opC fdC at *
  omega
/-- the ends of settling from S -/
def SetE (E : Prop) (B : Nat → Int) (Z : Int → IT → Prop) (K : KT) (P : PT) (J I S : IT) (n g lq : Nat) (lv mv : Nat → Nat) (q : Int) : PE := fun r K' P' J' I' c z => r = .inl none ∧ J' = J ∧ E ∧ ∃ (m' N' g' : Nat) (lv' mv' : Nat → Nat), CB K' P' I' n N' g' lq lv' mv' ∧ ER I' (mSettle m' S) n N' g' lv' mv' q ∧ SetOK m' S ∧ Z (-1) (mSettle m' S) ∧ (c + pC g n lv mv = pC g' n lv' mv' ∧ z + pS g n lv mv = pS g' n lv' mv') ∧ (∀ j, j < n → I' (tX j) 14 + 5 * mM (mSettle m' S) n ≤ B j) ∧ Fr (nEn n) K P I K' P' I'
theorem settle_start {Q : PE} {cs ns : Nat} {o : Option Nat} (h : VE m_Engine_settle false ({ frames := 11, cells := X, slots := Y, locals := 500 } : Room) Q K P J I cs ns 15 [(0, vR (some 1064)), (2, vR o), (3, vI 0)] []) : VE m_Engine_settle false ({ frames := 11, cells := X, slots := Y, locals := 500 } : Room) Q K P J I cs ns 12 [(0, vR (some 1064))] [vR o] := by
  have b : VE m_Engine_settle false ({ frames := 11, cells := X, slots := Y, locals := 500 } : Room) Q K P J I cs ns 13 [(2, vR o), (0, vR (some 1064))] [] := by
    refine VE.iconst (pc' := 14) d_Engine_settle_13 rfl (by decide) ?_
    refine VE.istore_n (pc' := 15) d_Engine_settle_14 rfl rfl ?_
    refine VE.pick [0, 2, 3] ?_
    exact h
  cases o with
  | none => exact VE.astore_nN (pc' := 13) d_Engine_settle_12 rfl rfl (VE.pick [2, 0] b)
  | some o => exact VE.astore_n (pc' := 13) d_Engine_settle_12 rfl rfl (VE.pick [2, 0] b)
theorem settle_null (hB : CB K P I n N g lq lv mv) (hE : ER I S n N g lv mv q) (hZ : ZOK Z) (z : Z (-1) S) (hc : ∀ j, j < n → I (tX j) 14 + 5 * mM S n ≤ 8190) (hX : 2100 ≤ X + pC g n lv mv ∧ 5306448 ≤ Y + pS g n lv mv) : SpE m_Engine_settle false ({ frames := 11, cells := X, slots := Y, locals := 500 } : Room) (SetE True (fun j => I (tX j) 14 + 5 * mM S n) Z K P J I S n g lq lv mv q) K P J I [vR (some 1064), vR none] := by
  have hC := hB.c
  have ml := mM_le hE
  refine SpE.ofV (by decide) (Or.inr rfl) rfl ?_
  have l9 := settle_loop (J := J) (Q := SetE True (fun j => I (tX j) 14 + 5 * mM S n) Z K P J I S n g lq lv mv q) (cs := 0) (ns := 0) hZ hX 24 0 hB hE z hc ml ⟨by omega, by omega⟩ ⟨by omega, by omega⟩ (fun m' K' P' I' c w N' g' lv' mv' d1 d2 d3 d4 d5 d6 d7 => ⟨rfl, rfl, trivial, m', N', g', lv', mv', d1, d2, d3, d4, by rw [Nat.zero_add, Nat.zero_add]; exact d5, d6, d7⟩)
  refine VE.aload_nN (pc' := 1) d_Engine_settle_0 rfl rfl ?_
  refine VE.ifnullN (pc' := 8) d_Engine_settle_1 rfl ?_
  refine VE.aload_n (pc' := 9) d_Engine_settle_8 rfl rfl ?_
  refine VE.cV (ci := 0) (T := T0) (N := 8) (pc' := 12) d_Engine_settle_9 rfl mv_Engine_lowestFreed lk_Engine_165 rfl (by first | exact hC.k 9 rfl) rfl rfl rfl (by show 0 + 0 ≤ X; omega) (by show 0 + 0 ≤ Y; omega) (sp_Engine_lowestFreed hC hB.e) rfl rfl ?_
  refine VE.pick [0] ?_
  exact settle_start l9
theorem settle_first (hB : CB K P I n N g lq lv mv) (hE : ER I S n N g lv mv q) (hi : i < n) (h0 : S 221 i = 0) (hp : PdE I S i) (hq : S 233 i + 4 + 4 * n ≤ q' ∧ q ≤ q' ∧ q' ≤ 2048) (hZ : ZOK Z) (z : Z i S) (hc : ∀ j, j < n → I (tX j) 14 + 5 * mM S n + 5 ≤ 8190) (hX : 2100 ≤ X + pC g n lv mv ∧ 5306448 ≤ Y + pS g n lv mv) : SpE m_Engine_settle false ({ frames := 11, cells := X, slots := Y, locals := 500 } : Room) (SetE (TryP S i) (fun j => I (tX j) 14 + 5 * mM S n + (if j = i then 5 else 0)) Z K P J I (mTry1 S i) n g lq lv mv q') K P J I [vR (some 1064), vR (some (tX i))] := by
  have hC := hB.c
  have ml := mM_le hE
  have M0 := (mM_rg (S := S) (n := n)).2.2
  have hb : S 225 i = -1 := (hE.ph i hi).2.2 (by omega)
  have eG : mGo S i = S := funext (fun o => funext (fun k => by
    unfold mGo
    by_cases a : o = 225 ∧ k = i
    · rw [a.1, a.2, up2_eq]; exact hb.symm
    · rw [show up2 (up2 S 221 i 0) 225 i (-1) o k = up2 S 221 i 0 o k from if_neg a]
      by_cases b : o = 221 ∧ k = i
      · rw [b.1, b.2, up2_eq]; exact h0.symm
      · exact if_neg b))
  have hm := (mM_try (open4 hE) hi (by omega) hE.cnt.2.1).1
  refine SpE.ofV (by decide) (Or.inr rfl) rfl ?_
  have bd : VE m_Engine_settle false ({ frames := 11, cells := X, slots := Y, locals := 500 } : Room) (SetE (TryP S i) (fun j => I (tX j) 14 + 5 * mM S n + (if j = i then 5 else 0)) Z K P J I (mTry1 S i) n g lq lv mv q') K P J I 0 0 26 [(0, vR (some 1064)), (2, vR (some (tX i))), (3, vI 0)] [] := by
    refine settle_body hB hE hi (by omega) hp (by omega) ⟨Or.inl hq.1, hq.2⟩ (fun j hj => by have := hc j hj; omega) hZ (by rw [eG]; exact z) ⟨by omega, by omega⟩ hX ⟨by omega, by omega⟩ (fun K' P' I' N' g' lv' mv' k w c1 c2 c3 c4 c5 c6 c7 => ?_)
    rw [eG] at c2 c3 c4 hm
    refine settle_loop hZ hX 24 (0 + 1) c1 c2 c3 (fun j hj => ?_) (by omega) ⟨by omega, by omega⟩ ⟨by omega, by omega⟩ ?_
    · have := c6 j hj
      have := hc j hj
      split at * <;> omega
    · intro m' K2 P2 I2 c z2 N2 g2 lv2 mv2 d1 d2 d3 d4 d5 d6 d7
      refine ⟨rfl, rfl, c4, m', N2, g2, lv2, mv2, d1, d2, d3, d4, ⟨by omega, by omega⟩, fun j hj => ?_, fun o ho => ⟨(d7 o ho).1.trans (c7 o ho).1, (d7 o ho).2.1.trans (c7 o ho).2.1, (d7 o ho).2.2.trans (c7 o ho).2.2⟩⟩
      have a := d6 j hj
      have b := c6 j hj
      show _ ≤ I (tX j) 14 + 5 * mM S n + (if j = i then 5 else 0)
      split at b <;> omega
  have c15 : VE m_Engine_settle false ({ frames := 11, cells := X, slots := Y, locals := 500 } : Room) (SetE (TryP S i) (fun j => I (tX j) 14 + 5 * mM S n + (if j = i then 5 else 0)) Z K P J I (mTry1 S i) n g lq lv mv q') K P J I 0 0 15 [(0, vR (some 1064)), (2, vR (some (tX i))), (3, vI 0)] [] := by
    refine VE.iload_n (pc' := 16) d_Engine_settle_15 rfl rfl ?_
    refine VE.sipush (pc' := 19) d_Engine_settle_16 rfl (by decide) ?_
    refine VE.icmp_ge (tgt := 52) (pc' := 22) d_Engine_settle_19 rfl rfl (fun c19 => absurd c19 (by decide)) (fun _ => ?_)
    refine VE.aload_n (pc' := 23) d_Engine_settle_22 rfl rfl ?_
    refine VE.ifnull (pc' := 26) d_Engine_settle_23 rfl ?_
    refine VE.pick [0, 2, 3] ?_
    exact bd
  refine VE.aload_n (pc' := 1) d_Engine_settle_0 rfl rfl ?_
  refine VE.ifnull (pc' := 4) d_Engine_settle_1 rfl ?_
  refine VE.aload_n (pc' := 5) d_Engine_settle_4 rfl rfl ?_
  refine VE.goto (pc' := 12) d_Engine_settle_5 rfl ?_
  refine VE.pick [0] ?_
  exact settle_start c15
end
