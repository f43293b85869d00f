section
variable {K : KT} {P : PT} {J I : IT}
/-- a query: its arrays are named behind it -/
def QuW (K : KT) (P : PT) (q : Nat) : Prop := (K q = some (4, 0)) ∧ (P q 2 = some (q + 3)) ∧ (P q 3 = some (q + 4)) ∧ (P q 4 = some (q + 5)) ∧ (P q 5 = some (q + 6)) ∧ (P q 6 = some (q + 7)) ∧ (P q 8 = some (q + 9)) ∧ (P q 12 = some (q + 13)) ∧ (K (q + 3) = some (100, 12)) ∧ (K (q + 4) = some (100, 48)) ∧ (K (q + 5) = some (100, 12)) ∧ (K (q + 6) = some (100, 12)) ∧ (K (q + 7) = some (100, 12)) ∧ (K (q + 9) = some (100, 6)) ∧ (K (q + 13) = some (100, 3))
theorem QuW.k {K : KT} {P : PT} {q : Nat} (h : QuW K P q) : K q = some (4, 0) := h.1
theorem QuW.p2 {K : KT} {P : PT} {q : Nat} (h : QuW K P q) : P q 2 = some (q + 3) := h.2.1
theorem QuW.p3 {K : KT} {P : PT} {q : Nat} (h : QuW K P q) : P q 3 = some (q + 4) := h.2.2.1
theorem QuW.p4 {K : KT} {P : PT} {q : Nat} (h : QuW K P q) : P q 4 = some (q + 5) := h.2.2.2.1
theorem QuW.p5 {K : KT} {P : PT} {q : Nat} (h : QuW K P q) : P q 5 = some (q + 6) := h.2.2.2.2.1
theorem QuW.p6 {K : KT} {P : PT} {q : Nat} (h : QuW K P q) : P q 6 = some (q + 7) := h.2.2.2.2.2.1
theorem QuW.p8 {K : KT} {P : PT} {q : Nat} (h : QuW K P q) : P q 8 = some (q + 9) := h.2.2.2.2.2.2.1
theorem QuW.p12 {K : KT} {P : PT} {q : Nat} (h : QuW K P q) : P q 12 = some (q + 13) := h.2.2.2.2.2.2.2.1
theorem QuW.k2 {K : KT} {P : PT} {q : Nat} (h : QuW K P q) : K (q + 3) = some (100, 12) := h.2.2.2.2.2.2.2.2.1
theorem QuW.k3 {K : KT} {P : PT} {q : Nat} (h : QuW K P q) : K (q + 4) = some (100, 48) := h.2.2.2.2.2.2.2.2.2.1
theorem QuW.k4 {K : KT} {P : PT} {q : Nat} (h : QuW K P q) : K (q + 5) = some (100, 12) := h.2.2.2.2.2.2.2.2.2.2.1
theorem QuW.k5 {K : KT} {P : PT} {q : Nat} (h : QuW K P q) : K (q + 6) = some (100, 12) := h.2.2.2.2.2.2.2.2.2.2.2.1
theorem QuW.k6 {K : KT} {P : PT} {q : Nat} (h : QuW K P q) : K (q + 7) = some (100, 12) := h.2.2.2.2.2.2.2.2.2.2.2.2.1
theorem QuW.k8 {K : KT} {P : PT} {q : Nat} (h : QuW K P q) : K (q + 9) = some (100, 6) := h.2.2.2.2.2.2.2.2.2.2.2.2.2.1
theorem QuW.k12 {K : KT} {P : PT} {q : Nat} (h : QuW K P q) : K (q + 13) = some (100, 3) := h.2.2.2.2.2.2.2.2.2.2.2.2.2.2
def QuB (I : IT) (q : Nat) : Prop := (0 ≤ I q 0 ∧ I q 0 ≤ 12) ∧ (0 ≤ I q 7 ∧ I q 7 ≤ 6) ∧ (∀ j, 0 ≤ I (q + 9) j ∧ I (q + 9) j < 12)
theorem QuB.c {I : IT} {q : Nat} (h : QuB I q) : 0 ≤ I q 0 ∧ I q 0 ≤ 12 := h.1
theorem QuB.t {I : IT} {q : Nat} (h : QuB I q) : 0 ≤ I q 7 ∧ I q 7 ≤ 6 := h.2.1
theorem QuB.r {I : IT} {q : Nat} (h : QuB I q) : ∀ j, 0 ≤ I (q + 9) j ∧ I (q + 9) j < 12 := h.2.2
def quLast (I : IT) (q : Nat) : Int := if 0 < I q 7 then I (q + 5) (I (q + 9) (I q 7 - 1)) else 0
def quEarl (I : IT) (q : Nat) : Int := if 1 < I q 7 then I (q + 5) (I (q + 9) (I q 7 - 2)) else 0
def quPut (I : IT) (q : Nat) (k w f s : Int) : IT := up2 (filI (up2 (up2 (up2 (up2 I (q + 3) (I q 0) k) (q + 5) (I q 0) w) (q + 6) (I q 0) f) (q + 7) (I q 0) s) (q + 4) (I q 0 * 4) ((I q 0 + 1) * 4) 0) q 0 (I q 0 + 1)
def quSet (I : IT) (q : Nat) (a b c d : Int) : IT := up2 (up2 (up2 (up2 I (q + 4) ((I q 0 - 1) * 4) a) (q + 4) ((I q 0 - 1) * 4 + 1) b) (q + 4) ((I q 0 - 1) * 4 + 2) c) (q + 4) ((I q 0 - 1) * 4 + 3) d
theorem quPut_c (I : IT) (q : Nat) (k w f s : Int) : quPut I q k w f s q 0 = I q 0 + 1 := up2_eq _ _ _ _
theorem quPut_f (I : IT) (q : Nat) (k w f s : Int) {j : Int} (h : j ≠ 0) : quPut I q k w f s q j = I q j := by simp [quPut, up2, filI, h]
theorem quPut_o (I : IT) (q : Nat) (k w f s : Int) {o : Nat} (h : o ≠ q ∧ (o < q + 3 ∨ q + 7 < o)) : quPut I q k w f s o = I o := by
  funext j
  have h1 : o ≠ q + 3 := by omega
  have h2 : o ≠ q + 4 := by omega
  have h3 : o ≠ q + 5 := by omega
  have h4 : o ≠ q + 6 := by omega
  have h5 : o ≠ q + 7 := by omega
  simp [quPut, up2, filI, h.1, h1, h2, h3, h4, h5]
theorem quSet_o (I : IT) (q : Nat) (a b c d : Int) {o : Nat} (h : o ≠ q + 4) : quSet I q a b c d o = I o := by
  funext j
  simp [quSet, up2, h]
def quScan (I : IT) (q : Nat) (t w : Int) : IT := up2 (up2 (up2 (quSet (quPut I q 0 w (-1) (-1)) q t 0 0 0) (q + 9) (I q 7) (I q 0)) q 7 (I q 7 + 1)) q 1 (I q 1 + 1)
def quOne (I : IT) (q : Nat) (k w a b c d : Int) : IT := up2 (quSet (quPut I q k w (I (q + 9) (I q 7 - 1)) (-1)) q a b c d) (q + 9) (I q 7 - 1) (I q 0)
def quTwo (I : IT) (q : Nat) (k w a b c : Int) : IT := up2 (up2 (quSet (quPut I q k w (I (q + 9) (I q 7 - 2)) (I (q + 9) (I q 7 - 1))) q a b c 0) q 7 (I q 7 - 1)) (q + 9) (I q 7 - 1 - 1) (I q 0)
def quFlt (I : IT) (q : Nat) (x : Int) : Prop := I (q + 3) x = 1 ∨ I (q + 3) x = 2
def quInn (I : IT) (q : Nat) (x : Int) : Prop := I (q + 3) x = 4 ∧ I (q + 4) (x * 4) = 0
def quAsk (I : IT) (q : Nat) (x : Int) : Prop := I (q + 3) x = 1 ∧ I (q + 4) (x * 4) = 0 ∧ I (q + 4) (x * 4 + 1) = 1 ∧ I (q + 4) (x * 4 + 3) = 0
def quGrp (I : IT) (q : Nat) (x : Int) : Prop := I (q + 3) x = 6 ∧ I (q + 4) (x * 4) ≠ -1 ∧ (I (q + 4) (x * 4 + 1) = 0 ∨ I (q + 4) (x * 4 + 1) = 1)
def quVwG (I : IT) (q : Nat) (x : Int) : Prop := (I (q + 3) x = 0 ∨ quFlt I q x ∨ I (q + 3) x = 5 ∨ quInn I q x) ∨ (x = I q 0 - 1 ∧ quGrp I q x)
theorem sp_Query_clear {q : Nat} (hQ : QuW K P q)  : Sp m_Query_clear false (rmv 0 0) (ex K P J (up2 (up2 (up2 I q 0 0) q 1 0) q 7 0) (.inl none)) K P J I [vR (some q)] := by
  refine Sp.ofV (by decide) (Or.inr rfl) rfl ?_
  refine VW.aload_n (pc' := 1) d_Query_clear_0 rfl rfl ?_
  refine VW.iconst (pc' := 2) d_Query_clear_1 rfl (by decide) ?_
  refine VW.pI (ci := 4) (T := T4) (N := 13) (k := 0) (k' := 0) (ty := ty4) (pc' := 5) d_Query_clear_2 rfl lk_Query_33 in4 tk4 nm4 rfl rfl rfl rfl rfl rfl (by first | exact hQ.k | exact hQ.k2 | exact hQ.k3 | exact hQ.k4 | exact hQ.k5 | exact hQ.k6 | exact hQ.k8 | exact hQ.k12) ?_
  refine VW.aload_n (pc' := 6) d_Query_clear_5 rfl rfl ?_
  refine VW.iconst (pc' := 7) d_Query_clear_6 rfl (by decide) ?_
  refine VW.pI (ci := 4) (T := T4) (N := 13) (k := 1) (k' := 1) (ty := ty4) (pc' := 10) d_Query_clear_7 rfl lk_Query_37 in4 tk4 nm4 rfl rfl rfl rfl rfl rfl (by first | exact hQ.k | exact hQ.k2 | exact hQ.k3 | exact hQ.k4 | exact hQ.k5 | exact hQ.k6 | exact hQ.k8 | exact hQ.k12) ?_
  refine VW.aload_n (pc' := 11) d_Query_clear_10 rfl rfl ?_
  refine VW.iconst (pc' := 12) d_Query_clear_11 rfl (by decide) ?_
  refine VW.pI (ci := 4) (T := T4) (N := 13) (k := 7) (k' := 7) (ty := ty4) (pc' := 15) d_Query_clear_12 rfl lk_Query_40 in4 tk4 nm4 rfl rfl rfl rfl rfl rfl (by first | exact hQ.k | exact hQ.k2 | exact hQ.k3 | exact hQ.k4 | exact hQ.k5 | exact hQ.k6 | exact hQ.k8 | exact hQ.k12) ?_
  exact VW.vret d_Query_clear_15 rfl (Nat.zero_le _) (Nat.zero_le _) ex_rf
theorem sp_Query_takesOperator {q : Nat} {n : Int} (hQ : QuW K P q)  : Sp m_Query_takesOperator false (rmv 0 0) (ex K P J I (.inl (some (vI (bI (n ≤ I q 7 ∧ I q 0 < 12)))))) K P J I [vR (some q), vI n] := by
  refine Sp.ofV (by decide) (Or.inr rfl) rfl ?_
  refine VW.aload_n (pc' := 1) d_Query_takesOperator_0 rfl rfl ?_
  refine VW.gI (ci := 4) (T := T4) (N := 13) (k := 7) (k' := 7) (pc' := 4) d_Query_takesOperator_1 rfl lk_Query_40 in4 rfl rfl rfl rfl (by first | exact hQ.k | exact hQ.k2 | exact hQ.k3 | exact hQ.k4 | exact hQ.k5 | exact hQ.k6 | exact hQ.k8 | exact hQ.k12) (by first | exact hQ.p2 | exact hQ.p3 | exact hQ.p4 | exact hQ.p5 | exact hQ.p6 | exact hQ.p8 | exact hQ.p12 | (simp [up2, filI] <;> rfl) | rfl) ?_
  refine VW.iload_n (pc' := 5) d_Query_takesOperator_4 rfl rfl ?_
  refine VW.icmp_lt (tgt := 21) (pc' := 8) d_Query_takesOperator_5 rfl rfl (fun c5 => ?_) (fun c5 => ?_)
  · refine VW.iconst (pc' := 22) d_Query_takesOperator_21 rfl (by decide) ?_
    exact VW.iret d_Query_takesOperator_22 rfl rfl (Nat.zero_le _) (Nat.zero_le _) (by first | (rw [bI1 (by omega)]; exact ex_rf) | (rw [bI0 (by omega)]; exact ex_rf))
  · refine VW.aload_n (pc' := 9) d_Query_takesOperator_8 rfl rfl ?_
    refine VW.gI (ci := 4) (T := T4) (N := 13) (k := 0) (k' := 0) (pc' := 12) d_Query_takesOperator_9 rfl lk_Query_33 in4 rfl rfl rfl rfl (by first | exact hQ.k | exact hQ.k2 | exact hQ.k3 | exact hQ.k4 | exact hQ.k5 | exact hQ.k6 | exact hQ.k8 | exact hQ.k12) (by first | exact hQ.p2 | exact hQ.p3 | exact hQ.p4 | exact hQ.p5 | exact hQ.p6 | exact hQ.p8 | exact hQ.p12 | (simp [up2, filI] <;> rfl) | rfl) ?_
    refine VW.bipush (pc' := 14) d_Query_takesOperator_12 rfl (by decide) ?_
    refine VW.icmp_ge (tgt := 21) (pc' := 17) d_Query_takesOperator_14 rfl rfl (fun c14 => ?_) (fun c14 => ?_)
    · refine VW.iconst (pc' := 22) d_Query_takesOperator_21 rfl (by decide) ?_
      exact VW.iret d_Query_takesOperator_22 rfl rfl (Nat.zero_le _) (Nat.zero_le _) (by first | (rw [bI1 (by omega)]; exact ex_rf) | (rw [bI0 (by omega)]; exact ex_rf))
    · refine VW.iconst (pc' := 18) d_Query_takesOperator_17 rfl (by decide) ?_
      refine VW.goto (pc' := 22) d_Query_takesOperator_18 rfl ?_
      exact VW.iret d_Query_takesOperator_22 rfl rfl (Nat.zero_le _) (Nat.zero_le _) (by first | (rw [bI1 (by omega)]; exact ex_rf) | (rw [bI0 (by omega)]; exact ex_rf))
theorem sp_Query_lastWidth {q : Nat} (hQ : QuW K P q) (hB : QuB I q) : Sp m_Query_lastWidth false (rmv 0 0) (ex K P J I (.inl (some (vI (quLast I q))))) K P J I [vR (some q)] := by
  refine Sp.ofV (by decide) (Or.inr rfl) rfl ?_
  have b1 := hB.t
  have b2 := hB.r (I q 7 - 1)
  refine VW.aload_n (pc' := 1) d_Query_lastWidth_0 rfl rfl ?_
  refine VW.gI (ci := 4) (T := T4) (N := 13) (k := 7) (k' := 7) (pc' := 4) d_Query_lastWidth_1 rfl lk_Query_40 in4 rfl rfl rfl rfl (by first | exact hQ.k | exact hQ.k2 | exact hQ.k3 | exact hQ.k4 | exact hQ.k5 | exact hQ.k6 | exact hQ.k8 | exact hQ.k12) (by first | exact hQ.p2 | exact hQ.p3 | exact hQ.p4 | exact hQ.p5 | exact hQ.p6 | exact hQ.p8 | exact hQ.p12 | (simp [up2, filI] <;> rfl) | rfl) ?_
  refine VW.if_le (tgt := 26) (pc' := 7) d_Query_lastWidth_4 rfl rfl (fun c4 => ?_) (fun c4 => ?_)
  · refine VW.iconst (pc' := 27) d_Query_lastWidth_26 rfl (by decide) ?_
    exact VW.iret d_Query_lastWidth_27 rfl rfl (Nat.zero_le _) (Nat.zero_le _) (by first | exact ex_v (if_pos (by omega)) | exact ex_v (if_neg (by omega)))
  · refine VW.aload_n (pc' := 8) d_Query_lastWidth_7 rfl rfl ?_
    refine VW.gP (ci := 4) (T := T4) (N := 13) (k := 4) (k' := 4) (pc' := 11) d_Query_lastWidth_8 rfl lk_Query_18 in4 rfl rfl rfl rfl (by first | exact hQ.k | exact hQ.k2 | exact hQ.k3 | exact hQ.k4 | exact hQ.k5 | exact hQ.k6 | exact hQ.k8 | exact hQ.k12) (by first | exact hQ.p2 | exact hQ.p3 | exact hQ.p4 | exact hQ.p5 | exact hQ.p6 | exact hQ.p8 | exact hQ.p12 | (simp [up2, filI] <;> rfl) | rfl) ?_
    refine VW.aload_n (pc' := 12) d_Query_lastWidth_11 rfl rfl ?_
    refine VW.gP (ci := 4) (T := T4) (N := 13) (k := 8) (k' := 8) (pc' := 15) d_Query_lastWidth_12 rfl lk_Query_27 in4 rfl rfl rfl rfl (by first | exact hQ.k | exact hQ.k2 | exact hQ.k3 | exact hQ.k4 | exact hQ.k5 | exact hQ.k6 | exact hQ.k8 | exact hQ.k12) (by first | exact hQ.p2 | exact hQ.p3 | exact hQ.p4 | exact hQ.p5 | exact hQ.p6 | exact hQ.p8 | exact hQ.p12 | (simp [up2, filI] <;> rfl) | rfl) ?_
    refine VW.aload_n (pc' := 16) d_Query_lastWidth_15 rfl rfl ?_
    refine VW.gI (ci := 4) (T := T4) (N := 13) (k := 7) (k' := 7) (pc' := 19) d_Query_lastWidth_16 rfl lk_Query_40 in4 rfl rfl rfl rfl (by first | exact hQ.k | exact hQ.k2 | exact hQ.k3 | exact hQ.k4 | exact hQ.k5 | exact hQ.k6 | exact hQ.k8 | exact hQ.k12) (by first | exact hQ.p2 | exact hQ.p3 | exact hQ.p4 | exact hQ.p5 | exact hQ.p6 | exact hQ.p8 | exact hQ.p12 | (simp [up2, filI] <;> rfl) | rfl) ?_
    refine VW.iconst (pc' := 20) d_Query_lastWidth_19 rfl (by decide) ?_
    refine VW.isub (pc' := 21) d_Query_lastWidth_20 rfl (by omega) ?_
    refine VW.ild (pc' := 22) d_Query_lastWidth_21 rfl (by first | exact hQ.k | exact hQ.k2 | exact hQ.k3 | exact hQ.k4 | exact hQ.k5 | exact hQ.k6 | exact hQ.k8 | exact hQ.k12) (by omega) (by omega) (by first | exact hQ.p2 | exact hQ.p3 | exact hQ.p4 | exact hQ.p5 | exact hQ.p6 | exact hQ.p8 | exact hQ.p12 | (simp [up2, filI] <;> rfl) | rfl) ?_
    refine VW.ild (pc' := 23) d_Query_lastWidth_22 rfl (by first | exact hQ.k | exact hQ.k2 | exact hQ.k3 | exact hQ.k4 | exact hQ.k5 | exact hQ.k6 | exact hQ.k8 | exact hQ.k12) (by omega) (by omega) (by first | exact hQ.p2 | exact hQ.p3 | exact hQ.p4 | exact hQ.p5 | exact hQ.p6 | exact hQ.p8 | exact hQ.p12 | (simp [up2, filI] <;> rfl) | rfl) ?_
    refine VW.goto (pc' := 27) d_Query_lastWidth_23 rfl ?_
    exact VW.iret d_Query_lastWidth_27 rfl rfl (Nat.zero_le _) (Nat.zero_le _) (by first | exact ex_v (if_pos (by omega)) | exact ex_v (if_neg (by omega)))
theorem sp_Query_earlierWidth {q : Nat} (hQ : QuW K P q) (hB : QuB I q) : Sp m_Query_earlierWidth false (rmv 0 0) (ex K P J I (.inl (some (vI (quEarl I q))))) K P J I [vR (some q)] := by
  refine Sp.ofV (by decide) (Or.inr rfl) rfl ?_
  have b1 := hB.t
  have b2 := hB.r (I q 7 - 2)
  refine VW.aload_n (pc' := 1) d_Query_earlierWidth_0 rfl rfl ?_
  refine VW.gI (ci := 4) (T := T4) (N := 13) (k := 7) (k' := 7) (pc' := 4) d_Query_earlierWidth_1 rfl lk_Query_40 in4 rfl rfl rfl rfl (by first | exact hQ.k | exact hQ.k2 | exact hQ.k3 | exact hQ.k4 | exact hQ.k5 | exact hQ.k6 | exact hQ.k8 | exact hQ.k12) (by first | exact hQ.p2 | exact hQ.p3 | exact hQ.p4 | exact hQ.p5 | exact hQ.p6 | exact hQ.p8 | exact hQ.p12 | (simp [up2, filI] <;> rfl) | rfl) ?_
  refine VW.iconst (pc' := 5) d_Query_earlierWidth_4 rfl (by decide) ?_
  refine VW.icmp_le (tgt := 27) (pc' := 8) d_Query_earlierWidth_5 rfl rfl (fun c5 => ?_) (fun c5 => ?_)
  · refine VW.iconst (pc' := 28) d_Query_earlierWidth_27 rfl (by decide) ?_
    exact VW.iret d_Query_earlierWidth_28 rfl rfl (Nat.zero_le _) (Nat.zero_le _) (by first | exact ex_v (if_pos (by omega)) | exact ex_v (if_neg (by omega)))
  · refine VW.aload_n (pc' := 9) d_Query_earlierWidth_8 rfl rfl ?_
    refine VW.gP (ci := 4) (T := T4) (N := 13) (k := 4) (k' := 4) (pc' := 12) d_Query_earlierWidth_9 rfl lk_Query_18 in4 rfl rfl rfl rfl (by first | exact hQ.k | exact hQ.k2 | exact hQ.k3 | exact hQ.k4 | exact hQ.k5 | exact hQ.k6 | exact hQ.k8 | exact hQ.k12) (by first | exact hQ.p2 | exact hQ.p3 | exact hQ.p4 | exact hQ.p5 | exact hQ.p6 | exact hQ.p8 | exact hQ.p12 | (simp [up2, filI] <;> rfl) | rfl) ?_
    refine VW.aload_n (pc' := 13) d_Query_earlierWidth_12 rfl rfl ?_
    refine VW.gP (ci := 4) (T := T4) (N := 13) (k := 8) (k' := 8) (pc' := 16) d_Query_earlierWidth_13 rfl lk_Query_27 in4 rfl rfl rfl rfl (by first | exact hQ.k | exact hQ.k2 | exact hQ.k3 | exact hQ.k4 | exact hQ.k5 | exact hQ.k6 | exact hQ.k8 | exact hQ.k12) (by first | exact hQ.p2 | exact hQ.p3 | exact hQ.p4 | exact hQ.p5 | exact hQ.p6 | exact hQ.p8 | exact hQ.p12 | (simp [up2, filI] <;> rfl) | rfl) ?_
    refine VW.aload_n (pc' := 17) d_Query_earlierWidth_16 rfl rfl ?_
    refine VW.gI (ci := 4) (T := T4) (N := 13) (k := 7) (k' := 7) (pc' := 20) d_Query_earlierWidth_17 rfl lk_Query_40 in4 rfl rfl rfl rfl (by first | exact hQ.k | exact hQ.k2 | exact hQ.k3 | exact hQ.k4 | exact hQ.k5 | exact hQ.k6 | exact hQ.k8 | exact hQ.k12) (by first | exact hQ.p2 | exact hQ.p3 | exact hQ.p4 | exact hQ.p5 | exact hQ.p6 | exact hQ.p8 | exact hQ.p12 | (simp [up2, filI] <;> rfl) | rfl) ?_
    refine VW.iconst (pc' := 21) d_Query_earlierWidth_20 rfl (by decide) ?_
    refine VW.isub (pc' := 22) d_Query_earlierWidth_21 rfl (by omega) ?_
    refine VW.ild (pc' := 23) d_Query_earlierWidth_22 rfl (by first | exact hQ.k | exact hQ.k2 | exact hQ.k3 | exact hQ.k4 | exact hQ.k5 | exact hQ.k6 | exact hQ.k8 | exact hQ.k12) (by omega) (by omega) (by first | exact hQ.p2 | exact hQ.p3 | exact hQ.p4 | exact hQ.p5 | exact hQ.p6 | exact hQ.p8 | exact hQ.p12 | (simp [up2, filI] <;> rfl) | rfl) ?_
    refine VW.ild (pc' := 24) d_Query_earlierWidth_23 rfl (by first | exact hQ.k | exact hQ.k2 | exact hQ.k3 | exact hQ.k4 | exact hQ.k5 | exact hQ.k6 | exact hQ.k8 | exact hQ.k12) (by omega) (by omega) (by first | exact hQ.p2 | exact hQ.p3 | exact hQ.p4 | exact hQ.p5 | exact hQ.p6 | exact hQ.p8 | exact hQ.p12 | (simp [up2, filI] <;> rfl) | rfl) ?_
    refine VW.goto (pc' := 28) d_Query_earlierWidth_24 rfl ?_
    exact VW.iret d_Query_earlierWidth_28 rfl rfl (Nat.zero_le _) (Nat.zero_le _) (by first | exact ex_v (if_pos (by omega)) | exact ex_v (if_neg (by omega)))
theorem sp_Query_parameter {q : Nat} {x n : Int} (hQ : QuW K P q) (hx : 0 ≤ x ∧ x < 12) (hn : 0 ≤ n ∧ n < 4) : Sp m_Query_parameter false (rmv 0 0) (ex K P J I (.inl (some (vI (I (q + 4) (x * 4 + n)))))) K P J I [vR (some q), vI x, vI n] := by
  refine Sp.ofV (by decide) (Or.inr rfl) rfl ?_
  refine VW.aload_n (pc' := 1) d_Query_parameter_0 rfl rfl ?_
  refine VW.gP (ci := 4) (T := T4) (N := 13) (k := 3) (k' := 3) (pc' := 4) d_Query_parameter_1 rfl lk_Query_15 in4 rfl rfl rfl rfl (by first | exact hQ.k | exact hQ.k2 | exact hQ.k3 | exact hQ.k4 | exact hQ.k5 | exact hQ.k6 | exact hQ.k8 | exact hQ.k12) (by first | exact hQ.p2 | exact hQ.p3 | exact hQ.p4 | exact hQ.p5 | exact hQ.p6 | exact hQ.p8 | exact hQ.p12 | (simp [up2, filI] <;> rfl) | rfl) ?_
  refine VW.iload_n (pc' := 5) d_Query_parameter_4 rfl rfl ?_
  refine VW.iconst (pc' := 6) d_Query_parameter_5 rfl (by decide) ?_
  refine VW.imul (pc' := 7) d_Query_parameter_6 rfl (by omega) ?_
  refine VW.iload_n (pc' := 8) d_Query_parameter_7 rfl rfl ?_
  refine VW.iadd (pc' := 9) d_Query_parameter_8 rfl (by omega) ?_
  refine VW.ild (pc' := 10) d_Query_parameter_9 rfl (by first | exact hQ.k | exact hQ.k2 | exact hQ.k3 | exact hQ.k4 | exact hQ.k5 | exact hQ.k6 | exact hQ.k8 | exact hQ.k12) (by omega) (by omega) (by first | exact hQ.p2 | exact hQ.p3 | exact hQ.p4 | exact hQ.p5 | exact hQ.p6 | exact hQ.p8 | exact hQ.p12 | (simp [up2, filI] <;> rfl) | rfl) ?_
  exact VW.iret d_Query_parameter_10 rfl rfl (Nat.zero_le _) (Nat.zero_le _) ex_rf
theorem sp_Query_put {q : Nat} {k w f s : Int} (hQ : QuW K P q) (hc : 0 ≤ I q 0 ∧ I q 0 < 12) : Sp m_Query_put false (rmv 2 80) (ex K P J (quPut I q k w f s) (.inl none)) K P J I [vR (some q), vI k, vI w, vI f, vI s] := by
  refine Sp.ofV (by decide) (Or.inr rfl) rfl ?_
  refine VW.aload_n (pc' := 1) d_Query_put_0 rfl rfl ?_
  refine VW.gP (ci := 4) (T := T4) (N := 13) (k := 2) (k' := 2) (pc' := 4) d_Query_put_1 rfl lk_Query_9 in4 rfl rfl rfl rfl (by first | exact hQ.k | exact hQ.k2 | exact hQ.k3 | exact hQ.k4 | exact hQ.k5 | exact hQ.k6 | exact hQ.k8 | exact hQ.k12) (by first | exact hQ.p2 | exact hQ.p3 | exact hQ.p4 | exact hQ.p5 | exact hQ.p6 | exact hQ.p8 | exact hQ.p12 | (simp [up2, filI] <;> rfl) | rfl) ?_
  refine VW.aload_n (pc' := 5) d_Query_put_4 rfl rfl ?_
  refine VW.gI (ci := 4) (T := T4) (N := 13) (k := 0) (k' := 0) (pc' := 8) d_Query_put_5 rfl lk_Query_33 in4 rfl rfl rfl rfl (by first | exact hQ.k | exact hQ.k2 | exact hQ.k3 | exact hQ.k4 | exact hQ.k5 | exact hQ.k6 | exact hQ.k8 | exact hQ.k12) (by first | exact hQ.p2 | exact hQ.p3 | exact hQ.p4 | exact hQ.p5 | exact hQ.p6 | exact hQ.p8 | exact hQ.p12 | (simp [up2, filI] <;> rfl) | rfl) ?_
  refine VW.iload_n (pc' := 9) d_Query_put_8 rfl rfl ?_
  refine VW.iast (pc' := 10) d_Query_put_9 rfl (by first | exact hQ.k | exact hQ.k2 | exact hQ.k3 | exact hQ.k4 | exact hQ.k5 | exact hQ.k6 | exact hQ.k8 | exact hQ.k12) (by omega) (by omega) ?_
  refine VW.aload_n (pc' := 11) d_Query_put_10 rfl rfl ?_
  refine VW.gP (ci := 4) (T := T4) (N := 13) (k := 4) (k' := 4) (pc' := 14) d_Query_put_11 rfl lk_Query_18 in4 rfl rfl rfl rfl (by first | exact hQ.k | exact hQ.k2 | exact hQ.k3 | exact hQ.k4 | exact hQ.k5 | exact hQ.k6 | exact hQ.k8 | exact hQ.k12) (by first | exact hQ.p2 | exact hQ.p3 | exact hQ.p4 | exact hQ.p5 | exact hQ.p6 | exact hQ.p8 | exact hQ.p12 | (simp [up2, filI] <;> rfl) | rfl) ?_
  refine VW.aload_n (pc' := 15) d_Query_put_14 rfl rfl ?_
  refine VW.gI (ci := 4) (T := T4) (N := 13) (k := 0) (k' := 0) (pc' := 18) d_Query_put_15 rfl lk_Query_33 in4 rfl rfl rfl rfl (by first | exact hQ.k | exact hQ.k2 | exact hQ.k3 | exact hQ.k4 | exact hQ.k5 | exact hQ.k6 | exact hQ.k8 | exact hQ.k12) (by first | exact hQ.p2 | exact hQ.p3 | exact hQ.p4 | exact hQ.p5 | exact hQ.p6 | exact hQ.p8 | exact hQ.p12 | (simp [up2, filI] <;> rfl) | rfl) ?_
  refine VW.iload_n (pc' := 19) d_Query_put_18 rfl rfl ?_
  refine VW.iast (pc' := 20) d_Query_put_19 rfl (by first | exact hQ.k | exact hQ.k2 | exact hQ.k3 | exact hQ.k4 | exact hQ.k5 | exact hQ.k6 | exact hQ.k8 | exact hQ.k12) (by omega) (by omega) ?_
  refine VW.aload_n (pc' := 21) d_Query_put_20 rfl rfl ?_
  refine VW.gP (ci := 4) (T := T4) (N := 13) (k := 5) (k' := 5) (pc' := 24) d_Query_put_21 rfl lk_Query_21 in4 rfl rfl rfl rfl (by first | exact hQ.k | exact hQ.k2 | exact hQ.k3 | exact hQ.k4 | exact hQ.k5 | exact hQ.k6 | exact hQ.k8 | exact hQ.k12) (by first | exact hQ.p2 | exact hQ.p3 | exact hQ.p4 | exact hQ.p5 | exact hQ.p6 | exact hQ.p8 | exact hQ.p12 | (simp [up2, filI] <;> rfl) | rfl) ?_
  refine VW.aload_n (pc' := 25) d_Query_put_24 rfl rfl ?_
  refine VW.gI (ci := 4) (T := T4) (N := 13) (k := 0) (k' := 0) (pc' := 28) d_Query_put_25 rfl lk_Query_33 in4 rfl rfl rfl rfl (by first | exact hQ.k | exact hQ.k2 | exact hQ.k3 | exact hQ.k4 | exact hQ.k5 | exact hQ.k6 | exact hQ.k8 | exact hQ.k12) (by first | exact hQ.p2 | exact hQ.p3 | exact hQ.p4 | exact hQ.p5 | exact hQ.p6 | exact hQ.p8 | exact hQ.p12 | (simp [up2, filI] <;> rfl) | rfl) ?_
  refine VW.iload_n (pc' := 29) d_Query_put_28 rfl rfl ?_
  refine VW.iast (pc' := 30) d_Query_put_29 rfl (by first | exact hQ.k | exact hQ.k2 | exact hQ.k3 | exact hQ.k4 | exact hQ.k5 | exact hQ.k6 | exact hQ.k8 | exact hQ.k12) (by omega) (by omega) ?_
  refine VW.aload_n (pc' := 31) d_Query_put_30 rfl rfl ?_
  refine VW.gP (ci := 4) (T := T4) (N := 13) (k := 6) (k' := 6) (pc' := 34) d_Query_put_31 rfl lk_Query_24 in4 rfl rfl rfl rfl (by first | exact hQ.k | exact hQ.k2 | exact hQ.k3 | exact hQ.k4 | exact hQ.k5 | exact hQ.k6 | exact hQ.k8 | exact hQ.k12) (by first | exact hQ.p2 | exact hQ.p3 | exact hQ.p4 | exact hQ.p5 | exact hQ.p6 | exact hQ.p8 | exact hQ.p12 | (simp [up2, filI] <;> rfl) | rfl) ?_
  refine VW.aload_n (pc' := 35) d_Query_put_34 rfl rfl ?_
  refine VW.gI (ci := 4) (T := T4) (N := 13) (k := 0) (k' := 0) (pc' := 38) d_Query_put_35 rfl lk_Query_33 in4 rfl rfl rfl rfl (by first | exact hQ.k | exact hQ.k2 | exact hQ.k3 | exact hQ.k4 | exact hQ.k5 | exact hQ.k6 | exact hQ.k8 | exact hQ.k12) (by first | exact hQ.p2 | exact hQ.p3 | exact hQ.p4 | exact hQ.p5 | exact hQ.p6 | exact hQ.p8 | exact hQ.p12 | (simp [up2, filI] <;> rfl) | rfl) ?_
  refine VW.iload (pc' := 40) d_Query_put_38 rfl rfl ?_
  refine VW.iast (pc' := 41) d_Query_put_40 rfl (by first | exact hQ.k | exact hQ.k2 | exact hQ.k3 | exact hQ.k4 | exact hQ.k5 | exact hQ.k6 | exact hQ.k8 | exact hQ.k12) (by omega) (by omega) ?_
  refine VW.aload_n (pc' := 42) d_Query_put_41 rfl rfl ?_
  refine VW.gP (ci := 4) (T := T4) (N := 13) (k := 3) (k' := 3) (pc' := 45) d_Query_put_42 rfl lk_Query_15 in4 rfl rfl rfl rfl (by first | exact hQ.k | exact hQ.k2 | exact hQ.k3 | exact hQ.k4 | exact hQ.k5 | exact hQ.k6 | exact hQ.k8 | exact hQ.k12) (by first | exact hQ.p2 | exact hQ.p3 | exact hQ.p4 | exact hQ.p5 | exact hQ.p6 | exact hQ.p8 | exact hQ.p12 | (simp [up2, filI] <;> rfl) | rfl) ?_
  refine VW.aload_n (pc' := 46) d_Query_put_45 rfl rfl ?_
  refine VW.gI (ci := 4) (T := T4) (N := 13) (k := 0) (k' := 0) (pc' := 49) d_Query_put_46 rfl lk_Query_33 in4 rfl rfl rfl rfl (by first | exact hQ.k | exact hQ.k2 | exact hQ.k3 | exact hQ.k4 | exact hQ.k5 | exact hQ.k6 | exact hQ.k8 | exact hQ.k12) (by first | exact hQ.p2 | exact hQ.p3 | exact hQ.p4 | exact hQ.p5 | exact hQ.p6 | exact hQ.p8 | exact hQ.p12 | (simp [up2, filI] <;> rfl) | rfl) ?_
  refine VW.iconst (pc' := 50) d_Query_put_49 rfl (by decide) ?_
  refine VW.imul (pc' := 51) d_Query_put_50 rfl (by omega) ?_
  refine VW.aload_n (pc' := 52) d_Query_put_51 rfl rfl ?_
  refine VW.gI (ci := 4) (T := T4) (N := 13) (k := 0) (k' := 0) (pc' := 55) d_Query_put_52 rfl lk_Query_33 in4 rfl rfl rfl rfl (by first | exact hQ.k | exact hQ.k2 | exact hQ.k3 | exact hQ.k4 | exact hQ.k5 | exact hQ.k6 | exact hQ.k8 | exact hQ.k12) (by first | exact hQ.p2 | exact hQ.p3 | exact hQ.p4 | exact hQ.p5 | exact hQ.p6 | exact hQ.p8 | exact hQ.p12 | (simp [up2, filI] <;> rfl) | rfl) ?_
  refine VW.iconst (pc' := 56) d_Query_put_55 rfl (by decide) ?_
  refine VW.iadd (pc' := 57) d_Query_put_56 rfl (by omega) ?_
  refine VW.iconst (pc' := 58) d_Query_put_57 rfl (by decide) ?_
  refine VW.imul (pc' := 59) d_Query_put_58 rfl (by omega) ?_
  refine VW.iconst (pc' := 60) d_Query_put_59 rfl (by decide) ?_
  refine VW.cS (pc' := 63) d_Query_put_60 rfl ms_java_util_Arrays_fill_IIIIV lk_Query_43 rfl rfl rfl (Nat.le_refl _) (Nat.le_refl _) (sp_fill4 hQ.k3 (by decide) (by omega) (by omega) (by omega)) rfl rfl ?_
  refine VW.aload_n (pc' := 64) d_Query_put_63 rfl rfl ?_
  refine VW.dup (pc' := 65) d_Query_put_64 rfl rfl ?_
  refine VW.gI (ci := 4) (T := T4) (N := 13) (k := 0) (k' := 0) (pc' := 68) d_Query_put_65 rfl lk_Query_33 in4 rfl rfl rfl rfl (by first | exact hQ.k | exact hQ.k2 | exact hQ.k3 | exact hQ.k4 | exact hQ.k5 | exact hQ.k6 | exact hQ.k8 | exact hQ.k12) (by first | exact hQ.p2 | exact hQ.p3 | exact hQ.p4 | exact hQ.p5 | exact hQ.p6 | exact hQ.p8 | exact hQ.p12 | (simp [up2, filI] <;> rfl) | rfl) ?_
  refine VW.iconst (pc' := 69) d_Query_put_68 rfl (by decide) ?_
  refine VW.iadd (pc' := 70) d_Query_put_69 rfl (by omega) ?_
  refine VW.pI (ci := 4) (T := T4) (N := 13) (k := 0) (k' := 0) (ty := ty4) (pc' := 73) d_Query_put_70 rfl lk_Query_33 in4 tk4 nm4 rfl rfl rfl rfl rfl rfl (by first | exact hQ.k | exact hQ.k2 | exact hQ.k3 | exact hQ.k4 | exact hQ.k5 | exact hQ.k6 | exact hQ.k8 | exact hQ.k12) ?_
  exact VW.vret d_Query_put_73 rfl (Nat.zero_le _) (Nat.zero_le _) ex_rf
theorem sp_Query_setParameters {q : Nat} {a b c d : Int} (hQ : QuW K P q) (hc : 1 ≤ I q 0 ∧ I q 0 ≤ 12) : Sp m_Query_setParameters false (rmv 0 0) (ex K P J (quSet I q a b c d) (.inl none)) K P J I [vR (some q), vI a, vI b, vI c, vI d] := by
  refine Sp.ofV (by decide) (Or.inr rfl) rfl ?_
  refine VW.aload_n (pc' := 1) d_Query_setParameters_0 rfl rfl ?_
  refine VW.gI (ci := 4) (T := T4) (N := 13) (k := 0) (k' := 0) (pc' := 4) d_Query_setParameters_1 rfl lk_Query_33 in4 rfl rfl rfl rfl (by first | exact hQ.k | exact hQ.k2 | exact hQ.k3 | exact hQ.k4 | exact hQ.k5 | exact hQ.k6 | exact hQ.k8 | exact hQ.k12) (by first | exact hQ.p2 | exact hQ.p3 | exact hQ.p4 | exact hQ.p5 | exact hQ.p6 | exact hQ.p8 | exact hQ.p12 | (simp [up2, filI] <;> rfl) | rfl) ?_
  refine VW.iconst (pc' := 5) d_Query_setParameters_4 rfl (by decide) ?_
  refine VW.isub (pc' := 6) d_Query_setParameters_5 rfl (by omega) ?_
  refine VW.iconst (pc' := 7) d_Query_setParameters_6 rfl (by decide) ?_
  refine VW.imul (pc' := 8) d_Query_setParameters_7 rfl (by omega) ?_
  refine VW.istore (pc' := 10) d_Query_setParameters_8 rfl rfl ?_
  refine VW.aload_n (pc' := 11) d_Query_setParameters_10 rfl rfl ?_
  refine VW.gP (ci := 4) (T := T4) (N := 13) (k := 3) (k' := 3) (pc' := 14) d_Query_setParameters_11 rfl lk_Query_15 in4 rfl rfl rfl rfl (by first | exact hQ.k | exact hQ.k2 | exact hQ.k3 | exact hQ.k4 | exact hQ.k5 | exact hQ.k6 | exact hQ.k8 | exact hQ.k12) (by first | exact hQ.p2 | exact hQ.p3 | exact hQ.p4 | exact hQ.p5 | exact hQ.p6 | exact hQ.p8 | exact hQ.p12 | (simp [up2, filI] <;> rfl) | rfl) ?_
  refine VW.iload (pc' := 16) d_Query_setParameters_14 rfl rfl ?_
  refine VW.iload_n (pc' := 17) d_Query_setParameters_16 rfl rfl ?_
  refine VW.iast (pc' := 18) d_Query_setParameters_17 rfl (by first | exact hQ.k | exact hQ.k2 | exact hQ.k3 | exact hQ.k4 | exact hQ.k5 | exact hQ.k6 | exact hQ.k8 | exact hQ.k12) (by omega) (by omega) ?_
  refine VW.aload_n (pc' := 19) d_Query_setParameters_18 rfl rfl ?_
  refine VW.gP (ci := 4) (T := T4) (N := 13) (k := 3) (k' := 3) (pc' := 22) d_Query_setParameters_19 rfl lk_Query_15 in4 rfl rfl rfl rfl (by first | exact hQ.k | exact hQ.k2 | exact hQ.k3 | exact hQ.k4 | exact hQ.k5 | exact hQ.k6 | exact hQ.k8 | exact hQ.k12) (by first | exact hQ.p2 | exact hQ.p3 | exact hQ.p4 | exact hQ.p5 | exact hQ.p6 | exact hQ.p8 | exact hQ.p12 | (simp [up2, filI] <;> rfl) | rfl) ?_
  refine VW.iload (pc' := 24) d_Query_setParameters_22 rfl rfl ?_
  refine VW.iconst (pc' := 25) d_Query_setParameters_24 rfl (by decide) ?_
  refine VW.iadd (pc' := 26) d_Query_setParameters_25 rfl (by omega) ?_
  refine VW.iload_n (pc' := 27) d_Query_setParameters_26 rfl rfl ?_
  refine VW.iast (pc' := 28) d_Query_setParameters_27 rfl (by first | exact hQ.k | exact hQ.k2 | exact hQ.k3 | exact hQ.k4 | exact hQ.k5 | exact hQ.k6 | exact hQ.k8 | exact hQ.k12) (by omega) (by omega) ?_
  refine VW.aload_n (pc' := 29) d_Query_setParameters_28 rfl rfl ?_
  refine VW.gP (ci := 4) (T := T4) (N := 13) (k := 3) (k' := 3) (pc' := 32) d_Query_setParameters_29 rfl lk_Query_15 in4 rfl rfl rfl rfl (by first | exact hQ.k | exact hQ.k2 | exact hQ.k3 | exact hQ.k4 | exact hQ.k5 | exact hQ.k6 | exact hQ.k8 | exact hQ.k12) (by first | exact hQ.p2 | exact hQ.p3 | exact hQ.p4 | exact hQ.p5 | exact hQ.p6 | exact hQ.p8 | exact hQ.p12 | (simp [up2, filI] <;> rfl) | rfl) ?_
  refine VW.iload (pc' := 34) d_Query_setParameters_32 rfl rfl ?_
  refine VW.iconst (pc' := 35) d_Query_setParameters_34 rfl (by decide) ?_
  refine VW.iadd (pc' := 36) d_Query_setParameters_35 rfl (by omega) ?_
  refine VW.iload_n (pc' := 37) d_Query_setParameters_36 rfl rfl ?_
  refine VW.iast (pc' := 38) d_Query_setParameters_37 rfl (by first | exact hQ.k | exact hQ.k2 | exact hQ.k3 | exact hQ.k4 | exact hQ.k5 | exact hQ.k6 | exact hQ.k8 | exact hQ.k12) (by omega) (by omega) ?_
  refine VW.aload_n (pc' := 39) d_Query_setParameters_38 rfl rfl ?_
  refine VW.gP (ci := 4) (T := T4) (N := 13) (k := 3) (k' := 3) (pc' := 42) d_Query_setParameters_39 rfl lk_Query_15 in4 rfl rfl rfl rfl (by first | exact hQ.k | exact hQ.k2 | exact hQ.k3 | exact hQ.k4 | exact hQ.k5 | exact hQ.k6 | exact hQ.k8 | exact hQ.k12) (by first | exact hQ.p2 | exact hQ.p3 | exact hQ.p4 | exact hQ.p5 | exact hQ.p6 | exact hQ.p8 | exact hQ.p12 | (simp [up2, filI] <;> rfl) | rfl) ?_
  refine VW.iload (pc' := 44) d_Query_setParameters_42 rfl rfl ?_
  refine VW.iconst (pc' := 45) d_Query_setParameters_44 rfl (by decide) ?_
  refine VW.iadd (pc' := 46) d_Query_setParameters_45 rfl (by omega) ?_
  refine VW.iload (pc' := 48) d_Query_setParameters_46 rfl rfl ?_
  refine VW.iast (pc' := 49) d_Query_setParameters_48 rfl (by first | exact hQ.k | exact hQ.k2 | exact hQ.k3 | exact hQ.k4 | exact hQ.k5 | exact hQ.k6 | exact hQ.k8 | exact hQ.k12) (by omega) (by omega) ?_
  exact VW.vret d_Query_setParameters_49 rfl (Nat.zero_le _) (Nat.zero_le _) ex_rf
theorem sp_Query_putScan {q : Nat} {t w : Int} (hQ : QuW K P q) (hc : 0 ≤ I q 0 ∧ I q 0 < 12) (ht : 0 ≤ I q 7 ∧ I q 7 < 6) (hs : 0 ≤ I q 1 ∧ I q 1 ≤ 12) : Sp m_Query_putScan false (rmv 3 120) (ex K P J (quScan I q t w) (.inl none)) K P J I [vR (some q), vI t, vI w] := by
  refine Sp.ofV (by decide) (Or.inr rfl) rfl ?_
  have c0 : (quSet (quPut I q 0 w (-1) (-1)) q t 0 0 0) q 0 = I q 0 + 1 := (congrFun (quSet_o _ _ _ _ _ _ (by omega)) 0).trans (quPut_c _ _ _ _ _ _)
  have c7 : (quSet (quPut I q 0 w (-1) (-1)) q t 0 0 0) q 7 = I q 7 := (congrFun (quSet_o _ _ _ _ _ _ (by omega)) 7).trans (quPut_f _ _ _ _ _ _ (by decide))
  have c1 : (quSet (quPut I q 0 w (-1) (-1)) q t 0 0 0) q 1 = I q 1 := (congrFun (quSet_o _ _ _ _ _ _ (by omega)) 1).trans (quPut_f _ _ _ _ _ _ (by decide))
  have e0 : I q 0 + 1 - 1 = I q 0 := by omega
  refine VW.aload_n (pc' := 1) d_Query_putScan_0 rfl rfl ?_
  refine VW.iconst (pc' := 2) d_Query_putScan_1 rfl (by decide) ?_
  refine VW.iload_n (pc' := 3) d_Query_putScan_2 rfl rfl ?_
  refine VW.iconst (pc' := 4) d_Query_putScan_3 rfl (by decide) ?_
  refine VW.iconst (pc' := 5) d_Query_putScan_4 rfl (by decide) ?_
  refine VW.cV (ci := 4) (T := T4) (N := 13) (pc' := 8) d_Query_putScan_5 rfl mv_Query_put lk_Query_49 rfl (by first | exact hQ.k | exact hQ.k2 | exact hQ.k3 | exact hQ.k4 | exact hQ.k5 | exact hQ.k6 | exact hQ.k8 | exact hQ.k12) rfl rfl rfl (Nat.le_refl _) (Nat.le_refl _) (sp_Query_put hQ hc) rfl rfl ?_
  refine VW.aload_n (pc' := 9) d_Query_putScan_8 rfl rfl ?_
  refine VW.iload_n (pc' := 10) d_Query_putScan_9 rfl rfl ?_
  refine VW.iconst (pc' := 11) d_Query_putScan_10 rfl (by decide) ?_
  refine VW.iconst (pc' := 12) d_Query_putScan_11 rfl (by decide) ?_
  refine VW.iconst (pc' := 13) d_Query_putScan_12 rfl (by decide) ?_
  refine VW.cV (ci := 4) (T := T4) (N := 13) (pc' := 16) d_Query_putScan_13 rfl mv_Query_setParameters lk_Query_53 rfl (by first | exact hQ.k | exact hQ.k2 | exact hQ.k3 | exact hQ.k4 | exact hQ.k5 | exact hQ.k6 | exact hQ.k8 | exact hQ.k12) rfl rfl rfl (Nat.le_refl _) (Nat.le_refl _) (sp_Query_setParameters hQ (by rw [quPut_c]; omega)) rfl rfl ?_
  refine VW.aload_n (pc' := 17) d_Query_putScan_16 rfl rfl ?_
  refine VW.gP (ci := 4) (T := T4) (N := 13) (k := 8) (k' := 8) (pc' := 20) d_Query_putScan_17 rfl lk_Query_27 in4 rfl rfl rfl rfl (by first | exact hQ.k | exact hQ.k2 | exact hQ.k3 | exact hQ.k4 | exact hQ.k5 | exact hQ.k6 | exact hQ.k8 | exact hQ.k12) (by first | exact hQ.p2 | exact hQ.p3 | exact hQ.p4 | exact hQ.p5 | exact hQ.p6 | exact hQ.p8 | exact hQ.p12 | exact c0 | exact c7 | exact c1 | (rw [up2_o _ _ _ _ (by omega)]; first | exact c0 | exact c7 | exact c1) | (rw [up2_k _ _ _ _ (by decide), up2_o _ _ _ _ (by omega)]; exact c1) | (rw [up2_k _ _ _ _ (by decide)]; first | exact c0 | exact c1) | exact up2_eq _ _ _ _  | rfl) ?_
  refine VW.aload_n (pc' := 21) d_Query_putScan_20 rfl rfl ?_
  refine VW.gI (ci := 4) (T := T4) (N := 13) (k := 7) (k' := 7) (pc' := 24) d_Query_putScan_21 rfl lk_Query_40 in4 rfl rfl rfl rfl (by first | exact hQ.k | exact hQ.k2 | exact hQ.k3 | exact hQ.k4 | exact hQ.k5 | exact hQ.k6 | exact hQ.k8 | exact hQ.k12) (by first | exact hQ.p2 | exact hQ.p3 | exact hQ.p4 | exact hQ.p5 | exact hQ.p6 | exact hQ.p8 | exact hQ.p12 | exact c0 | exact c7 | exact c1 | (rw [up2_o _ _ _ _ (by omega)]; first | exact c0 | exact c7 | exact c1) | (rw [up2_k _ _ _ _ (by decide), up2_o _ _ _ _ (by omega)]; exact c1) | (rw [up2_k _ _ _ _ (by decide)]; first | exact c0 | exact c1) | exact up2_eq _ _ _ _  | rfl) ?_
  refine VW.aload_n (pc' := 25) d_Query_putScan_24 rfl rfl ?_
  refine VW.gI (ci := 4) (T := T4) (N := 13) (k := 0) (k' := 0) (pc' := 28) d_Query_putScan_25 rfl lk_Query_33 in4 rfl rfl rfl rfl (by first | exact hQ.k | exact hQ.k2 | exact hQ.k3 | exact hQ.k4 | exact hQ.k5 | exact hQ.k6 | exact hQ.k8 | exact hQ.k12) (by first | exact hQ.p2 | exact hQ.p3 | exact hQ.p4 | exact hQ.p5 | exact hQ.p6 | exact hQ.p8 | exact hQ.p12 | exact c0 | exact c7 | exact c1 | (rw [up2_o _ _ _ _ (by omega)]; first | exact c0 | exact c7 | exact c1) | (rw [up2_k _ _ _ _ (by decide), up2_o _ _ _ _ (by omega)]; exact c1) | (rw [up2_k _ _ _ _ (by decide)]; first | exact c0 | exact c1) | exact up2_eq _ _ _ _  | rfl) ?_
  refine VW.iconst (pc' := 29) d_Query_putScan_28 rfl (by decide) ?_
  refine VW.isub (pc' := 30) d_Query_putScan_29 rfl (by omega) ?_
  refine VW.iast (pc' := 31) d_Query_putScan_30 rfl (by first | exact hQ.k | exact hQ.k2 | exact hQ.k3 | exact hQ.k4 | exact hQ.k5 | exact hQ.k6 | exact hQ.k8 | exact hQ.k12) (by omega) (by omega) ?_
  refine VW.aload_n (pc' := 32) d_Query_putScan_31 rfl rfl ?_
  refine VW.dup (pc' := 33) d_Query_putScan_32 rfl rfl ?_
  refine VW.gI (ci := 4) (T := T4) (N := 13) (k := 7) (k' := 7) (pc' := 36) d_Query_putScan_33 rfl lk_Query_40 in4 rfl rfl rfl rfl (by first | exact hQ.k | exact hQ.k2 | exact hQ.k3 | exact hQ.k4 | exact hQ.k5 | exact hQ.k6 | exact hQ.k8 | exact hQ.k12) ((up2_o _ _ _ _ (by omega)).trans c7) ?_
  refine VW.iconst (pc' := 37) d_Query_putScan_36 rfl (by decide) ?_
  refine VW.iadd (pc' := 38) d_Query_putScan_37 rfl (by omega) ?_
  refine VW.pI (ci := 4) (T := T4) (N := 13) (k := 7) (k' := 7) (ty := ty4) (pc' := 41) d_Query_putScan_38 rfl lk_Query_40 in4 tk4 nm4 rfl rfl rfl rfl rfl rfl (by first | exact hQ.k | exact hQ.k2 | exact hQ.k3 | exact hQ.k4 | exact hQ.k5 | exact hQ.k6 | exact hQ.k8 | exact hQ.k12) ?_
  refine VW.aload_n (pc' := 42) d_Query_putScan_41 rfl rfl ?_
  refine VW.dup (pc' := 43) d_Query_putScan_42 rfl rfl ?_
  refine VW.gI (ci := 4) (T := T4) (N := 13) (k := 1) (k' := 1) (pc' := 46) d_Query_putScan_43 rfl lk_Query_37 in4 rfl rfl rfl rfl (by first | exact hQ.k | exact hQ.k2 | exact hQ.k3 | exact hQ.k4 | exact hQ.k5 | exact hQ.k6 | exact hQ.k8 | exact hQ.k12) ((up2_k _ _ _ _ (by decide)).trans ((up2_o _ _ _ _ (by omega)).trans c1)) ?_
  refine VW.iconst (pc' := 47) d_Query_putScan_46 rfl (by decide) ?_
  refine VW.iadd (pc' := 48) d_Query_putScan_47 rfl (by omega) ?_
  refine VW.pI (ci := 4) (T := T4) (N := 13) (k := 1) (k' := 1) (ty := ty4) (pc' := 51) d_Query_putScan_48 rfl lk_Query_37 in4 tk4 nm4 rfl rfl rfl rfl rfl rfl (by first | exact hQ.k | exact hQ.k2 | exact hQ.k3 | exact hQ.k4 | exact hQ.k5 | exact hQ.k6 | exact hQ.k8 | exact hQ.k12) ?_
  exact VW.vret d_Query_putScan_51 rfl (Nat.zero_le _) (Nat.zero_le _) (by rw [e0]; exact ex_rf)
theorem sp_Query_putOnLast {q : Nat} {k w a b c d : Int} (hQ : QuW K P q) (hc : 0 ≤ I q 0 ∧ I q 0 < 12) (ht : 1 ≤ I q 7 ∧ I q 7 ≤ 6) : Sp m_Query_putOnLast false (rmv 3 120) (ex K P J (quOne I q k w a b c d) (.inl none)) K P J I [vR (some q), vI k, vI w, vI a, vI b, vI c, vI d] := by
  refine Sp.ofV (by decide) (Or.inr rfl) rfl ?_
  have c0 : (quSet (quPut I q k w (I (q + 9) (I q 7 - 1)) (-1)) q a b c d) q 0 = I q 0 + 1 := (congrFun (quSet_o _ _ _ _ _ _ (by omega)) 0).trans (quPut_c _ _ _ _ _ _)
  have c7 : (quSet (quPut I q k w (I (q + 9) (I q 7 - 1)) (-1)) q a b c d) q 7 = I q 7 := (congrFun (quSet_o _ _ _ _ _ _ (by omega)) 7).trans (quPut_f _ _ _ _ _ _ (by decide))
  have c1 : (quSet (quPut I q k w (I (q + 9) (I q 7 - 1)) (-1)) q a b c d) q 1 = I q 1 := (congrFun (quSet_o _ _ _ _ _ _ (by omega)) 1).trans (quPut_f _ _ _ _ _ _ (by decide))
  have e0 : I q 0 + 1 - 1 = I q 0 := by omega
  refine VW.aload_n (pc' := 1) d_Query_putOnLast_0 rfl rfl ?_
  refine VW.iload_n (pc' := 2) d_Query_putOnLast_1 rfl rfl ?_
  refine VW.iload_n (pc' := 3) d_Query_putOnLast_2 rfl rfl ?_
  refine VW.aload_n (pc' := 4) d_Query_putOnLast_3 rfl rfl ?_
  refine VW.gP (ci := 4) (T := T4) (N := 13) (k := 8) (k' := 8) (pc' := 7) d_Query_putOnLast_4 rfl lk_Query_27 in4 rfl rfl rfl rfl (by first | exact hQ.k | exact hQ.k2 | exact hQ.k3 | exact hQ.k4 | exact hQ.k5 | exact hQ.k6 | exact hQ.k8 | exact hQ.k12) (by first | exact hQ.p2 | exact hQ.p3 | exact hQ.p4 | exact hQ.p5 | exact hQ.p6 | exact hQ.p8 | exact hQ.p12 | exact c0 | exact c7 | exact c1 | (rw [up2_o _ _ _ _ (by omega)]; first | exact c0 | exact c7 | exact c1) | (rw [up2_k _ _ _ _ (by decide), up2_o _ _ _ _ (by omega)]; exact c1) | (rw [up2_k _ _ _ _ (by decide)]; first | exact c0 | exact c1) | exact up2_eq _ _ _ _  | rfl) ?_
  refine VW.aload_n (pc' := 8) d_Query_putOnLast_7 rfl rfl ?_
  refine VW.gI (ci := 4) (T := T4) (N := 13) (k := 7) (k' := 7) (pc' := 11) d_Query_putOnLast_8 rfl lk_Query_40 in4 rfl rfl rfl rfl (by first | exact hQ.k | exact hQ.k2 | exact hQ.k3 | exact hQ.k4 | exact hQ.k5 | exact hQ.k6 | exact hQ.k8 | exact hQ.k12) (by first | exact hQ.p2 | exact hQ.p3 | exact hQ.p4 | exact hQ.p5 | exact hQ.p6 | exact hQ.p8 | exact hQ.p12 | exact c0 | exact c7 | exact c1 | (rw [up2_o _ _ _ _ (by omega)]; first | exact c0 | exact c7 | exact c1) | (rw [up2_k _ _ _ _ (by decide), up2_o _ _ _ _ (by omega)]; exact c1) | (rw [up2_k _ _ _ _ (by decide)]; first | exact c0 | exact c1) | exact up2_eq _ _ _ _  | rfl) ?_
  refine VW.iconst (pc' := 12) d_Query_putOnLast_11 rfl (by decide) ?_
  refine VW.isub (pc' := 13) d_Query_putOnLast_12 rfl (by omega) ?_
  refine VW.ild (pc' := 14) d_Query_putOnLast_13 rfl (by first | exact hQ.k | exact hQ.k2 | exact hQ.k3 | exact hQ.k4 | exact hQ.k5 | exact hQ.k6 | exact hQ.k8 | exact hQ.k12) (by omega) (by omega) (by first | exact hQ.p2 | exact hQ.p3 | exact hQ.p4 | exact hQ.p5 | exact hQ.p6 | exact hQ.p8 | exact hQ.p12 | exact c0 | exact c7 | exact c1 | (rw [up2_o _ _ _ _ (by omega)]; first | exact c0 | exact c7 | exact c1) | (rw [up2_k _ _ _ _ (by decide), up2_o _ _ _ _ (by omega)]; exact c1) | (rw [up2_k _ _ _ _ (by decide)]; first | exact c0 | exact c1) | exact up2_eq _ _ _ _  | rfl) ?_
  refine VW.iconst (pc' := 15) d_Query_putOnLast_14 rfl (by decide) ?_
  refine VW.cV (ci := 4) (T := T4) (N := 13) (pc' := 18) d_Query_putOnLast_15 rfl mv_Query_put lk_Query_49 rfl (by first | exact hQ.k | exact hQ.k2 | exact hQ.k3 | exact hQ.k4 | exact hQ.k5 | exact hQ.k6 | exact hQ.k8 | exact hQ.k12) rfl rfl rfl (Nat.le_refl _) (Nat.le_refl _) (sp_Query_put hQ hc) rfl rfl ?_
  refine VW.aload_n (pc' := 19) d_Query_putOnLast_18 rfl rfl ?_
  refine VW.iload_n (pc' := 20) d_Query_putOnLast_19 rfl rfl ?_
  refine VW.iload (pc' := 22) d_Query_putOnLast_20 rfl rfl ?_
  refine VW.iload (pc' := 24) d_Query_putOnLast_22 rfl rfl ?_
  refine VW.iload (pc' := 26) d_Query_putOnLast_24 rfl rfl ?_
  refine VW.cV (ci := 4) (T := T4) (N := 13) (pc' := 29) d_Query_putOnLast_26 rfl mv_Query_setParameters lk_Query_53 rfl (by first | exact hQ.k | exact hQ.k2 | exact hQ.k3 | exact hQ.k4 | exact hQ.k5 | exact hQ.k6 | exact hQ.k8 | exact hQ.k12) rfl rfl rfl (Nat.le_refl _) (Nat.le_refl _) (sp_Query_setParameters hQ (by rw [quPut_c]; omega)) rfl rfl ?_
  refine VW.aload_n (pc' := 30) d_Query_putOnLast_29 rfl rfl ?_
  refine VW.gP (ci := 4) (T := T4) (N := 13) (k := 8) (k' := 8) (pc' := 33) d_Query_putOnLast_30 rfl lk_Query_27 in4 rfl rfl rfl rfl (by first | exact hQ.k | exact hQ.k2 | exact hQ.k3 | exact hQ.k4 | exact hQ.k5 | exact hQ.k6 | exact hQ.k8 | exact hQ.k12) (by first | exact hQ.p2 | exact hQ.p3 | exact hQ.p4 | exact hQ.p5 | exact hQ.p6 | exact hQ.p8 | exact hQ.p12 | exact c0 | exact c7 | exact c1 | (rw [up2_o _ _ _ _ (by omega)]; first | exact c0 | exact c7 | exact c1) | (rw [up2_k _ _ _ _ (by decide), up2_o _ _ _ _ (by omega)]; exact c1) | (rw [up2_k _ _ _ _ (by decide)]; first | exact c0 | exact c1) | exact up2_eq _ _ _ _  | rfl) ?_
  refine VW.aload_n (pc' := 34) d_Query_putOnLast_33 rfl rfl ?_
  refine VW.gI (ci := 4) (T := T4) (N := 13) (k := 7) (k' := 7) (pc' := 37) d_Query_putOnLast_34 rfl lk_Query_40 in4 rfl rfl rfl rfl (by first | exact hQ.k | exact hQ.k2 | exact hQ.k3 | exact hQ.k4 | exact hQ.k5 | exact hQ.k6 | exact hQ.k8 | exact hQ.k12) (by first | exact hQ.p2 | exact hQ.p3 | exact hQ.p4 | exact hQ.p5 | exact hQ.p6 | exact hQ.p8 | exact hQ.p12 | exact c0 | exact c7 | exact c1 | (rw [up2_o _ _ _ _ (by omega)]; first | exact c0 | exact c7 | exact c1) | (rw [up2_k _ _ _ _ (by decide), up2_o _ _ _ _ (by omega)]; exact c1) | (rw [up2_k _ _ _ _ (by decide)]; first | exact c0 | exact c1) | exact up2_eq _ _ _ _  | rfl) ?_
  refine VW.iconst (pc' := 38) d_Query_putOnLast_37 rfl (by decide) ?_
  refine VW.isub (pc' := 39) d_Query_putOnLast_38 rfl (by omega) ?_
  refine VW.aload_n (pc' := 40) d_Query_putOnLast_39 rfl rfl ?_
  refine VW.gI (ci := 4) (T := T4) (N := 13) (k := 0) (k' := 0) (pc' := 43) d_Query_putOnLast_40 rfl lk_Query_33 in4 rfl rfl rfl rfl (by first | exact hQ.k | exact hQ.k2 | exact hQ.k3 | exact hQ.k4 | exact hQ.k5 | exact hQ.k6 | exact hQ.k8 | exact hQ.k12) (by first | exact hQ.p2 | exact hQ.p3 | exact hQ.p4 | exact hQ.p5 | exact hQ.p6 | exact hQ.p8 | exact hQ.p12 | exact c0 | exact c7 | exact c1 | (rw [up2_o _ _ _ _ (by omega)]; first | exact c0 | exact c7 | exact c1) | (rw [up2_k _ _ _ _ (by decide), up2_o _ _ _ _ (by omega)]; exact c1) | (rw [up2_k _ _ _ _ (by decide)]; first | exact c0 | exact c1) | exact up2_eq _ _ _ _  | rfl) ?_
  refine VW.iconst (pc' := 44) d_Query_putOnLast_43 rfl (by decide) ?_
  refine VW.isub (pc' := 45) d_Query_putOnLast_44 rfl (by omega) ?_
  refine VW.iast (pc' := 46) d_Query_putOnLast_45 rfl (by first | exact hQ.k | exact hQ.k2 | exact hQ.k3 | exact hQ.k4 | exact hQ.k5 | exact hQ.k6 | exact hQ.k8 | exact hQ.k12) (by omega) (by omega) ?_
  exact VW.vret d_Query_putOnLast_46 rfl (Nat.zero_le _) (Nat.zero_le _) (by rw [e0]; exact ex_rf)
theorem sp_Query_putOnTwo {q : Nat} {k w a b c : Int} (hQ : QuW K P q) (hc : 0 ≤ I q 0 ∧ I q 0 < 12) (ht : 2 ≤ I q 7 ∧ I q 7 ≤ 6) : Sp m_Query_putOnTwo false (rmv 3 120) (ex K P J (quTwo I q k w a b c) (.inl none)) K P J I [vR (some q), vI k, vI w, vI a, vI b, vI c] := by
  refine Sp.ofV (by decide) (Or.inr rfl) rfl ?_
  have c0 : (quSet (quPut I q k w (I (q + 9) (I q 7 - 2)) (I (q + 9) (I q 7 - 1))) q a b c 0) q 0 = I q 0 + 1 := (congrFun (quSet_o _ _ _ _ _ _ (by omega)) 0).trans (quPut_c _ _ _ _ _ _)
  have c7 : (quSet (quPut I q k w (I (q + 9) (I q 7 - 2)) (I (q + 9) (I q 7 - 1))) q a b c 0) q 7 = I q 7 := (congrFun (quSet_o _ _ _ _ _ _ (by omega)) 7).trans (quPut_f _ _ _ _ _ _ (by decide))
  have c1 : (quSet (quPut I q k w (I (q + 9) (I q 7 - 2)) (I (q + 9) (I q 7 - 1))) q a b c 0) q 1 = I q 1 := (congrFun (quSet_o _ _ _ _ _ _ (by omega)) 1).trans (quPut_f _ _ _ _ _ _ (by decide))
  have e0 : I q 0 + 1 - 1 = I q 0 := by omega
  refine VW.aload_n (pc' := 1) d_Query_putOnTwo_0 rfl rfl ?_
  refine VW.iload_n (pc' := 2) d_Query_putOnTwo_1 rfl rfl ?_
  refine VW.iload_n (pc' := 3) d_Query_putOnTwo_2 rfl rfl ?_
  refine VW.aload_n (pc' := 4) d_Query_putOnTwo_3 rfl rfl ?_
  refine VW.gP (ci := 4) (T := T4) (N := 13) (k := 8) (k' := 8) (pc' := 7) d_Query_putOnTwo_4 rfl lk_Query_27 in4 rfl rfl rfl rfl (by first | exact hQ.k | exact hQ.k2 | exact hQ.k3 | exact hQ.k4 | exact hQ.k5 | exact hQ.k6 | exact hQ.k8 | exact hQ.k12) (by first | exact hQ.p2 | exact hQ.p3 | exact hQ.p4 | exact hQ.p5 | exact hQ.p6 | exact hQ.p8 | exact hQ.p12 | exact c0 | exact c7 | exact c1 | (rw [up2_o _ _ _ _ (by omega)]; first | exact c0 | exact c7 | exact c1) | (rw [up2_k _ _ _ _ (by decide), up2_o _ _ _ _ (by omega)]; exact c1) | (rw [up2_k _ _ _ _ (by decide)]; first | exact c0 | exact c1) | exact up2_eq _ _ _ _  | rfl) ?_
  refine VW.aload_n (pc' := 8) d_Query_putOnTwo_7 rfl rfl ?_
  refine VW.gI (ci := 4) (T := T4) (N := 13) (k := 7) (k' := 7) (pc' := 11) d_Query_putOnTwo_8 rfl lk_Query_40 in4 rfl rfl rfl rfl (by first | exact hQ.k | exact hQ.k2 | exact hQ.k3 | exact hQ.k4 | exact hQ.k5 | exact hQ.k6 | exact hQ.k8 | exact hQ.k12) (by first | exact hQ.p2 | exact hQ.p3 | exact hQ.p4 | exact hQ.p5 | exact hQ.p6 | exact hQ.p8 | exact hQ.p12 | exact c0 | exact c7 | exact c1 | (rw [up2_o _ _ _ _ (by omega)]; first | exact c0 | exact c7 | exact c1) | (rw [up2_k _ _ _ _ (by decide), up2_o _ _ _ _ (by omega)]; exact c1) | (rw [up2_k _ _ _ _ (by decide)]; first | exact c0 | exact c1) | exact up2_eq _ _ _ _  | rfl) ?_
  refine VW.iconst (pc' := 12) d_Query_putOnTwo_11 rfl (by decide) ?_
  refine VW.isub (pc' := 13) d_Query_putOnTwo_12 rfl (by omega) ?_
  refine VW.ild (pc' := 14) d_Query_putOnTwo_13 rfl (by first | exact hQ.k | exact hQ.k2 | exact hQ.k3 | exact hQ.k4 | exact hQ.k5 | exact hQ.k6 | exact hQ.k8 | exact hQ.k12) (by omega) (by omega) (by first | exact hQ.p2 | exact hQ.p3 | exact hQ.p4 | exact hQ.p5 | exact hQ.p6 | exact hQ.p8 | exact hQ.p12 | exact c0 | exact c7 | exact c1 | (rw [up2_o _ _ _ _ (by omega)]; first | exact c0 | exact c7 | exact c1) | (rw [up2_k _ _ _ _ (by decide), up2_o _ _ _ _ (by omega)]; exact c1) | (rw [up2_k _ _ _ _ (by decide)]; first | exact c0 | exact c1) | exact up2_eq _ _ _ _  | rfl) ?_
  refine VW.aload_n (pc' := 15) d_Query_putOnTwo_14 rfl rfl ?_
  refine VW.gP (ci := 4) (T := T4) (N := 13) (k := 8) (k' := 8) (pc' := 18) d_Query_putOnTwo_15 rfl lk_Query_27 in4 rfl rfl rfl rfl (by first | exact hQ.k | exact hQ.k2 | exact hQ.k3 | exact hQ.k4 | exact hQ.k5 | exact hQ.k6 | exact hQ.k8 | exact hQ.k12) (by first | exact hQ.p2 | exact hQ.p3 | exact hQ.p4 | exact hQ.p5 | exact hQ.p6 | exact hQ.p8 | exact hQ.p12 | exact c0 | exact c7 | exact c1 | (rw [up2_o _ _ _ _ (by omega)]; first | exact c0 | exact c7 | exact c1) | (rw [up2_k _ _ _ _ (by decide), up2_o _ _ _ _ (by omega)]; exact c1) | (rw [up2_k _ _ _ _ (by decide)]; first | exact c0 | exact c1) | exact up2_eq _ _ _ _  | rfl) ?_
  refine VW.aload_n (pc' := 19) d_Query_putOnTwo_18 rfl rfl ?_
  refine VW.gI (ci := 4) (T := T4) (N := 13) (k := 7) (k' := 7) (pc' := 22) d_Query_putOnTwo_19 rfl lk_Query_40 in4 rfl rfl rfl rfl (by first | exact hQ.k | exact hQ.k2 | exact hQ.k3 | exact hQ.k4 | exact hQ.k5 | exact hQ.k6 | exact hQ.k8 | exact hQ.k12) (by first | exact hQ.p2 | exact hQ.p3 | exact hQ.p4 | exact hQ.p5 | exact hQ.p6 | exact hQ.p8 | exact hQ.p12 | exact c0 | exact c7 | exact c1 | (rw [up2_o _ _ _ _ (by omega)]; first | exact c0 | exact c7 | exact c1) | (rw [up2_k _ _ _ _ (by decide), up2_o _ _ _ _ (by omega)]; exact c1) | (rw [up2_k _ _ _ _ (by decide)]; first | exact c0 | exact c1) | exact up2_eq _ _ _ _  | rfl) ?_
  refine VW.iconst (pc' := 23) d_Query_putOnTwo_22 rfl (by decide) ?_
  refine VW.isub (pc' := 24) d_Query_putOnTwo_23 rfl (by omega) ?_
  refine VW.ild (pc' := 25) d_Query_putOnTwo_24 rfl (by first | exact hQ.k | exact hQ.k2 | exact hQ.k3 | exact hQ.k4 | exact hQ.k5 | exact hQ.k6 | exact hQ.k8 | exact hQ.k12) (by omega) (by omega) (by first | exact hQ.p2 | exact hQ.p3 | exact hQ.p4 | exact hQ.p5 | exact hQ.p6 | exact hQ.p8 | exact hQ.p12 | exact c0 | exact c7 | exact c1 | (rw [up2_o _ _ _ _ (by omega)]; first | exact c0 | exact c7 | exact c1) | (rw [up2_k _ _ _ _ (by decide), up2_o _ _ _ _ (by omega)]; exact c1) | (rw [up2_k _ _ _ _ (by decide)]; first | exact c0 | exact c1) | exact up2_eq _ _ _ _  | rfl) ?_
  refine VW.cV (ci := 4) (T := T4) (N := 13) (pc' := 28) d_Query_putOnTwo_25 rfl mv_Query_put lk_Query_49 rfl (by first | exact hQ.k | exact hQ.k2 | exact hQ.k3 | exact hQ.k4 | exact hQ.k5 | exact hQ.k6 | exact hQ.k8 | exact hQ.k12) rfl rfl rfl (Nat.le_refl _) (Nat.le_refl _) (sp_Query_put hQ hc) rfl rfl ?_
  refine VW.aload_n (pc' := 29) d_Query_putOnTwo_28 rfl rfl ?_
  refine VW.iload_n (pc' := 30) d_Query_putOnTwo_29 rfl rfl ?_
  refine VW.iload (pc' := 32) d_Query_putOnTwo_30 rfl rfl ?_
  refine VW.iload (pc' := 34) d_Query_putOnTwo_32 rfl rfl ?_
  refine VW.iconst (pc' := 35) d_Query_putOnTwo_34 rfl (by decide) ?_
  refine VW.cV (ci := 4) (T := T4) (N := 13) (pc' := 38) d_Query_putOnTwo_35 rfl mv_Query_setParameters lk_Query_53 rfl (by first | exact hQ.k | exact hQ.k2 | exact hQ.k3 | exact hQ.k4 | exact hQ.k5 | exact hQ.k6 | exact hQ.k8 | exact hQ.k12) rfl rfl rfl (Nat.le_refl _) (Nat.le_refl _) (sp_Query_setParameters hQ (by rw [quPut_c]; omega)) rfl rfl ?_
  refine VW.aload_n (pc' := 39) d_Query_putOnTwo_38 rfl rfl ?_
  refine VW.dup (pc' := 40) d_Query_putOnTwo_39 rfl rfl ?_
  refine VW.gI (ci := 4) (T := T4) (N := 13) (k := 7) (k' := 7) (pc' := 43) d_Query_putOnTwo_40 rfl lk_Query_40 in4 rfl rfl rfl rfl (by first | exact hQ.k | exact hQ.k2 | exact hQ.k3 | exact hQ.k4 | exact hQ.k5 | exact hQ.k6 | exact hQ.k8 | exact hQ.k12) (by first | exact hQ.p2 | exact hQ.p3 | exact hQ.p4 | exact hQ.p5 | exact hQ.p6 | exact hQ.p8 | exact hQ.p12 | exact c0 | exact c7 | exact c1 | (rw [up2_o _ _ _ _ (by omega)]; first | exact c0 | exact c7 | exact c1) | (rw [up2_k _ _ _ _ (by decide), up2_o _ _ _ _ (by omega)]; exact c1) | (rw [up2_k _ _ _ _ (by decide)]; first | exact c0 | exact c1) | exact up2_eq _ _ _ _  | rfl) ?_
  refine VW.iconst (pc' := 44) d_Query_putOnTwo_43 rfl (by decide) ?_
  refine VW.isub (pc' := 45) d_Query_putOnTwo_44 rfl (by omega) ?_
  refine VW.pI (ci := 4) (T := T4) (N := 13) (k := 7) (k' := 7) (ty := ty4) (pc' := 48) d_Query_putOnTwo_45 rfl lk_Query_40 in4 tk4 nm4 rfl rfl rfl rfl rfl rfl (by first | exact hQ.k | exact hQ.k2 | exact hQ.k3 | exact hQ.k4 | exact hQ.k5 | exact hQ.k6 | exact hQ.k8 | exact hQ.k12) ?_
  refine VW.aload_n (pc' := 49) d_Query_putOnTwo_48 rfl rfl ?_
  refine VW.gP (ci := 4) (T := T4) (N := 13) (k := 8) (k' := 8) (pc' := 52) d_Query_putOnTwo_49 rfl lk_Query_27 in4 rfl rfl rfl rfl (by first | exact hQ.k | exact hQ.k2 | exact hQ.k3 | exact hQ.k4 | exact hQ.k5 | exact hQ.k6 | exact hQ.k8 | exact hQ.k12) (by first | exact hQ.p2 | exact hQ.p3 | exact hQ.p4 | exact hQ.p5 | exact hQ.p6 | exact hQ.p8 | exact hQ.p12 | exact c0 | exact c7 | exact c1 | (rw [up2_o _ _ _ _ (by omega)]; first | exact c0 | exact c7 | exact c1) | (rw [up2_k _ _ _ _ (by decide), up2_o _ _ _ _ (by omega)]; exact c1) | (rw [up2_k _ _ _ _ (by decide)]; first | exact c0 | exact c1) | exact up2_eq _ _ _ _  | rfl) ?_
  refine VW.aload_n (pc' := 53) d_Query_putOnTwo_52 rfl rfl ?_
  refine VW.gI (ci := 4) (T := T4) (N := 13) (k := 7) (k' := 7) (pc' := 56) d_Query_putOnTwo_53 rfl lk_Query_40 in4 rfl rfl rfl rfl (by first | exact hQ.k | exact hQ.k2 | exact hQ.k3 | exact hQ.k4 | exact hQ.k5 | exact hQ.k6 | exact hQ.k8 | exact hQ.k12) (up2_eq _ _ _ _) ?_
  refine VW.iconst (pc' := 57) d_Query_putOnTwo_56 rfl (by decide) ?_
  refine VW.isub (pc' := 58) d_Query_putOnTwo_57 rfl (by omega) ?_
  refine VW.aload_n (pc' := 59) d_Query_putOnTwo_58 rfl rfl ?_
  refine VW.gI (ci := 4) (T := T4) (N := 13) (k := 0) (k' := 0) (pc' := 62) d_Query_putOnTwo_59 rfl lk_Query_33 in4 rfl rfl rfl rfl (by first | exact hQ.k | exact hQ.k2 | exact hQ.k3 | exact hQ.k4 | exact hQ.k5 | exact hQ.k6 | exact hQ.k8 | exact hQ.k12) ((up2_k _ _ _ _ (by decide)).trans c0) ?_
  refine VW.iconst (pc' := 63) d_Query_putOnTwo_62 rfl (by decide) ?_
  refine VW.isub (pc' := 64) d_Query_putOnTwo_63 rfl (by omega) ?_
  refine VW.iast (pc' := 65) d_Query_putOnTwo_64 rfl (by first | exact hQ.k | exact hQ.k2 | exact hQ.k3 | exact hQ.k4 | exact hQ.k5 | exact hQ.k6 | exact hQ.k8 | exact hQ.k12) (by omega) (by omega) ?_
  exact VW.vret d_Query_putOnTwo_65 rfl (Nat.zero_le _) (Nat.zero_le _) (by rw [e0]; exact ex_rf)
theorem sp_Query_isFilter {q : Nat} {x : Int} (hQ : QuW K P q) (hx : 0 ≤ x ∧ x < 12) : Sp m_Query_isFilter false (rmv 0 0) (ex K P J I (.inl (some (vI (bI (quFlt I q x)))))) K P J I [vR (some q), vI x] := by
  refine Sp.ofV (by decide) (Or.inr rfl) rfl ?_
  unfold quFlt
  refine VW.aload_n (pc' := 1) d_Query_isFilter_0 rfl rfl ?_
  refine VW.gP (ci := 4) (T := T4) (N := 13) (k := 2) (k' := 2) (pc' := 4) d_Query_isFilter_1 rfl lk_Query_9 in4 rfl rfl rfl rfl (by first | exact hQ.k | exact hQ.k2 | exact hQ.k3 | exact hQ.k4 | exact hQ.k5 | exact hQ.k6 | exact hQ.k8 | exact hQ.k12) (by first | exact hQ.p2 | exact hQ.p3 | exact hQ.p4 | exact hQ.p5 | exact hQ.p6 | exact hQ.p8 | exact hQ.p12 | (simp [up2, filI] <;> rfl) | rfl) ?_
  refine VW.iload_n (pc' := 5) d_Query_isFilter_4 rfl rfl ?_
  refine VW.ild (pc' := 6) d_Query_isFilter_5 rfl (by first | exact hQ.k | exact hQ.k2 | exact hQ.k3 | exact hQ.k4 | exact hQ.k5 | exact hQ.k6 | exact hQ.k8 | exact hQ.k12) (by omega) (by omega) (by first | exact hQ.p2 | exact hQ.p3 | exact hQ.p4 | exact hQ.p5 | exact hQ.p6 | exact hQ.p8 | exact hQ.p12 | (simp [up2, filI] <;> rfl) | rfl) ?_
  refine VW.iconst (pc' := 7) d_Query_isFilter_6 rfl (by decide) ?_
  refine VW.icmp_eq (tgt := 20) (pc' := 10) d_Query_isFilter_7 rfl rfl (fun c7 => ?_) (fun c7 => ?_)
  · refine VW.iconst (pc' := 21) d_Query_isFilter_20 rfl (by decide) ?_
    refine VW.goto (pc' := 25) d_Query_isFilter_21 rfl ?_
    exact VW.iret d_Query_isFilter_25 rfl rfl (Nat.zero_le _) (Nat.zero_le _) (by first | (rw [bI1 (by omega)]; exact ex_rf) | (rw [bI0 (by omega)]; exact ex_rf))
  · refine VW.aload_n (pc' := 11) d_Query_isFilter_10 rfl rfl ?_
    refine VW.gP (ci := 4) (T := T4) (N := 13) (k := 2) (k' := 2) (pc' := 14) d_Query_isFilter_11 rfl lk_Query_9 in4 rfl rfl rfl rfl (by first | exact hQ.k | exact hQ.k2 | exact hQ.k3 | exact hQ.k4 | exact hQ.k5 | exact hQ.k6 | exact hQ.k8 | exact hQ.k12) (by first | exact hQ.p2 | exact hQ.p3 | exact hQ.p4 | exact hQ.p5 | exact hQ.p6 | exact hQ.p8 | exact hQ.p12 | (simp [up2, filI] <;> rfl) | rfl) ?_
    refine VW.iload_n (pc' := 15) d_Query_isFilter_14 rfl rfl ?_
    refine VW.ild (pc' := 16) d_Query_isFilter_15 rfl (by first | exact hQ.k | exact hQ.k2 | exact hQ.k3 | exact hQ.k4 | exact hQ.k5 | exact hQ.k6 | exact hQ.k8 | exact hQ.k12) (by omega) (by omega) (by first | exact hQ.p2 | exact hQ.p3 | exact hQ.p4 | exact hQ.p5 | exact hQ.p6 | exact hQ.p8 | exact hQ.p12 | (simp [up2, filI] <;> rfl) | rfl) ?_
    refine VW.iconst (pc' := 17) d_Query_isFilter_16 rfl (by decide) ?_
    refine VW.icmp_ne (tgt := 24) (pc' := 20) d_Query_isFilter_17 rfl rfl (fun c17 => ?_) (fun c17 => ?_)
    · refine VW.iconst (pc' := 25) d_Query_isFilter_24 rfl (by decide) ?_
      exact VW.iret d_Query_isFilter_25 rfl rfl (Nat.zero_le _) (Nat.zero_le _) (by first | (rw [bI1 (by omega)]; exact ex_rf) | (rw [bI0 (by omega)]; exact ex_rf))
    · refine VW.iconst (pc' := 21) d_Query_isFilter_20 rfl (by decide) ?_
      refine VW.goto (pc' := 25) d_Query_isFilter_21 rfl ?_
      exact VW.iret d_Query_isFilter_25 rfl rfl (Nat.zero_le _) (Nat.zero_le _) (by first | (rw [bI1 (by omega)]; exact ex_rf) | (rw [bI0 (by omega)]; exact ex_rf))
theorem sp_Query_isInnerJoin {q : Nat} {x : Int} (hQ : QuW K P q) (hx : 0 ≤ x ∧ x < 12) : Sp m_Query_isInnerJoin false (rmv 1 22) (ex K P J I (.inl (some (vI (bI (quInn I q x)))))) K P J I [vR (some q), vI x] := by
  refine Sp.ofV (by decide) (Or.inr rfl) rfl ?_
  unfold quInn
  have e0 : x * 4 + 0 = x * 4 := by omega
  refine VW.aload_n (pc' := 1) d_Query_isInnerJoin_0 rfl rfl ?_
  refine VW.gP (ci := 4) (T := T4) (N := 13) (k := 2) (k' := 2) (pc' := 4) d_Query_isInnerJoin_1 rfl lk_Query_9 in4 rfl rfl rfl rfl (by first | exact hQ.k | exact hQ.k2 | exact hQ.k3 | exact hQ.k4 | exact hQ.k5 | exact hQ.k6 | exact hQ.k8 | exact hQ.k12) (by first | exact hQ.p2 | exact hQ.p3 | exact hQ.p4 | exact hQ.p5 | exact hQ.p6 | exact hQ.p8 | exact hQ.p12 | (simp [up2, filI] <;> rfl) | rfl) ?_
  refine VW.iload_n (pc' := 5) d_Query_isInnerJoin_4 rfl rfl ?_
  refine VW.ild (pc' := 6) d_Query_isInnerJoin_5 rfl (by first | exact hQ.k | exact hQ.k2 | exact hQ.k3 | exact hQ.k4 | exact hQ.k5 | exact hQ.k6 | exact hQ.k8 | exact hQ.k12) (by omega) (by omega) (by first | exact hQ.p2 | exact hQ.p3 | exact hQ.p4 | exact hQ.p5 | exact hQ.p6 | exact hQ.p8 | exact hQ.p12 | (simp [up2, filI] <;> rfl) | rfl) ?_
  refine VW.iconst (pc' := 7) d_Query_isInnerJoin_6 rfl (by decide) ?_
  refine VW.icmp_ne (tgt := 23) (pc' := 10) d_Query_isInnerJoin_7 rfl rfl (fun c7 => ?_) (fun c7 => ?_)
  · refine VW.iconst (pc' := 24) d_Query_isInnerJoin_23 rfl (by decide) ?_
    exact VW.iret d_Query_isInnerJoin_24 rfl rfl (Nat.zero_le _) (Nat.zero_le _) (by rw [e0] at *; first | (rw [bI1 (by omega)]; exact ex_rf) | (rw [bI0 (by omega)]; exact ex_rf))
  · refine VW.aload_n (pc' := 11) d_Query_isInnerJoin_10 rfl rfl ?_
    refine VW.iload_n (pc' := 12) d_Query_isInnerJoin_11 rfl rfl ?_
    refine VW.iconst (pc' := 13) d_Query_isInnerJoin_12 rfl (by decide) ?_
    refine VW.cV (ci := 4) (T := T4) (N := 13) (pc' := 16) d_Query_isInnerJoin_13 rfl mv_Query_parameter lk_Query_56 rfl (by first | exact hQ.k | exact hQ.k2 | exact hQ.k3 | exact hQ.k4 | exact hQ.k5 | exact hQ.k6 | exact hQ.k8 | exact hQ.k12) rfl rfl rfl (Nat.le_refl _) (Nat.le_refl _) (sp_Query_parameter hQ hx (by omega)) rfl rfl ?_
    refine VW.if_ne (tgt := 23) (pc' := 19) d_Query_isInnerJoin_16 rfl rfl (fun c16 => ?_) (fun c16 => ?_)
    · try have e16 := bIn c16
      refine VW.iconst (pc' := 24) d_Query_isInnerJoin_23 rfl (by decide) ?_
      exact VW.iret d_Query_isInnerJoin_24 rfl rfl (Nat.zero_le _) (Nat.zero_le _) (by rw [e0] at *; first | (rw [bI1 (by omega)]; exact ex_rf) | (rw [bI0 (by omega)]; exact ex_rf))
    · try have e16 := bIe c16
      refine VW.iconst (pc' := 20) d_Query_isInnerJoin_19 rfl (by decide) ?_
      refine VW.goto (pc' := 24) d_Query_isInnerJoin_20 rfl ?_
      exact VW.iret d_Query_isInnerJoin_24 rfl rfl (Nat.zero_le _) (Nat.zero_le _) (by rw [e0] at *; first | (rw [bI1 (by omega)]; exact ex_rf) | (rw [bI0 (by omega)]; exact ex_rf))
theorem sp_Query_asksForKey {q : Nat} {x : Int} (hQ : QuW K P q) (hx : 0 ≤ x ∧ x < 12) : Sp m_Query_asksForKey false (rmv 1 22) (ex K P J I (.inl (some (vI (bI (quAsk I q x)))))) K P J I [vR (some q), vI x] := by
  refine Sp.ofV (by decide) (Or.inr rfl) rfl ?_
  unfold quAsk
  have e0 : x * 4 + 0 = x * 4 := by omega
  refine VW.aload_n (pc' := 1) d_Query_asksForKey_0 rfl rfl ?_
  refine VW.gP (ci := 4) (T := T4) (N := 13) (k := 2) (k' := 2) (pc' := 4) d_Query_asksForKey_1 rfl lk_Query_9 in4 rfl rfl rfl rfl (by first | exact hQ.k | exact hQ.k2 | exact hQ.k3 | exact hQ.k4 | exact hQ.k5 | exact hQ.k6 | exact hQ.k8 | exact hQ.k12) (by first | exact hQ.p2 | exact hQ.p3 | exact hQ.p4 | exact hQ.p5 | exact hQ.p6 | exact hQ.p8 | exact hQ.p12 | (simp [up2, filI] <;> rfl) | rfl) ?_
  refine VW.iload_n (pc' := 5) d_Query_asksForKey_4 rfl rfl ?_
  refine VW.ild (pc' := 6) d_Query_asksForKey_5 rfl (by first | exact hQ.k | exact hQ.k2 | exact hQ.k3 | exact hQ.k4 | exact hQ.k5 | exact hQ.k6 | exact hQ.k8 | exact hQ.k12) (by omega) (by omega) (by first | exact hQ.p2 | exact hQ.p3 | exact hQ.p4 | exact hQ.p5 | exact hQ.p6 | exact hQ.p8 | exact hQ.p12 | (simp [up2, filI] <;> rfl) | rfl) ?_
  refine VW.iconst (pc' := 7) d_Query_asksForKey_6 rfl (by decide) ?_
  refine VW.icmp_ne (tgt := 42) (pc' := 10) d_Query_asksForKey_7 rfl rfl (fun c7 => ?_) (fun c7 => ?_)
  · refine VW.iconst (pc' := 43) d_Query_asksForKey_42 rfl (by decide) ?_
    exact VW.iret d_Query_asksForKey_43 rfl rfl (Nat.zero_le _) (Nat.zero_le _) (by rw [e0] at *; first | (rw [bI1 (by omega)]; exact ex_rf) | (rw [bI0 (by omega)]; exact ex_rf))
  · refine VW.aload_n (pc' := 11) d_Query_asksForKey_10 rfl rfl ?_
    refine VW.iload_n (pc' := 12) d_Query_asksForKey_11 rfl rfl ?_
    refine VW.iconst (pc' := 13) d_Query_asksForKey_12 rfl (by decide) ?_
    refine VW.cV (ci := 4) (T := T4) (N := 13) (pc' := 16) d_Query_asksForKey_13 rfl mv_Query_parameter lk_Query_56 rfl (by first | exact hQ.k | exact hQ.k2 | exact hQ.k3 | exact hQ.k4 | exact hQ.k5 | exact hQ.k6 | exact hQ.k8 | exact hQ.k12) rfl rfl rfl (Nat.le_refl _) (Nat.le_refl _) (sp_Query_parameter hQ hx (by omega)) rfl rfl ?_
    refine VW.if_ne (tgt := 42) (pc' := 19) d_Query_asksForKey_16 rfl rfl (fun c16 => ?_) (fun c16 => ?_)
    · try have e16 := bIn c16
      refine VW.iconst (pc' := 43) d_Query_asksForKey_42 rfl (by decide) ?_
      exact VW.iret d_Query_asksForKey_43 rfl rfl (Nat.zero_le _) (Nat.zero_le _) (by rw [e0] at *; first | (rw [bI1 (by omega)]; exact ex_rf) | (rw [bI0 (by omega)]; exact ex_rf))
    · try have e16 := bIe c16
      refine VW.aload_n (pc' := 20) d_Query_asksForKey_19 rfl rfl ?_
      refine VW.iload_n (pc' := 21) d_Query_asksForKey_20 rfl rfl ?_
      refine VW.iconst (pc' := 22) d_Query_asksForKey_21 rfl (by decide) ?_
      refine VW.cV (ci := 4) (T := T4) (N := 13) (pc' := 25) d_Query_asksForKey_22 rfl mv_Query_parameter lk_Query_56 rfl (by first | exact hQ.k | exact hQ.k2 | exact hQ.k3 | exact hQ.k4 | exact hQ.k5 | exact hQ.k6 | exact hQ.k8 | exact hQ.k12) rfl rfl rfl (Nat.le_refl _) (Nat.le_refl _) (sp_Query_parameter hQ hx (by omega)) rfl rfl ?_
      refine VW.iconst (pc' := 26) d_Query_asksForKey_25 rfl (by decide) ?_
      refine VW.icmp_ne (tgt := 42) (pc' := 29) d_Query_asksForKey_26 rfl rfl (fun c26 => ?_) (fun c26 => ?_)
      · refine VW.iconst (pc' := 43) d_Query_asksForKey_42 rfl (by decide) ?_
        exact VW.iret d_Query_asksForKey_43 rfl rfl (Nat.zero_le _) (Nat.zero_le _) (by rw [e0] at *; first | (rw [bI1 (by omega)]; exact ex_rf) | (rw [bI0 (by omega)]; exact ex_rf))
      · refine VW.aload_n (pc' := 30) d_Query_asksForKey_29 rfl rfl ?_
        refine VW.iload_n (pc' := 31) d_Query_asksForKey_30 rfl rfl ?_
        refine VW.iconst (pc' := 32) d_Query_asksForKey_31 rfl (by decide) ?_
        refine VW.cV (ci := 4) (T := T4) (N := 13) (pc' := 35) d_Query_asksForKey_32 rfl mv_Query_parameter lk_Query_56 rfl (by first | exact hQ.k | exact hQ.k2 | exact hQ.k3 | exact hQ.k4 | exact hQ.k5 | exact hQ.k6 | exact hQ.k8 | exact hQ.k12) rfl rfl rfl (Nat.le_refl _) (Nat.le_refl _) (sp_Query_parameter hQ hx (by omega)) rfl rfl ?_
        refine VW.if_ne (tgt := 42) (pc' := 38) d_Query_asksForKey_35 rfl rfl (fun c35 => ?_) (fun c35 => ?_)
        · try have e35 := bIn c35
          refine VW.iconst (pc' := 43) d_Query_asksForKey_42 rfl (by decide) ?_
          exact VW.iret d_Query_asksForKey_43 rfl rfl (Nat.zero_le _) (Nat.zero_le _) (by rw [e0] at *; first | (rw [bI1 (by omega)]; exact ex_rf) | (rw [bI0 (by omega)]; exact ex_rf))
        · try have e35 := bIe c35
          refine VW.iconst (pc' := 39) d_Query_asksForKey_38 rfl (by decide) ?_
          refine VW.goto (pc' := 43) d_Query_asksForKey_39 rfl ?_
          exact VW.iret d_Query_asksForKey_43 rfl rfl (Nat.zero_le _) (Nat.zero_le _) (by rw [e0] at *; first | (rw [bI1 (by omega)]; exact ex_rf) | (rw [bI0 (by omega)]; exact ex_rf))
theorem sp_Query_isViewableGroup {q : Nat} {x : Int} (hQ : QuW K P q) (hx : 0 ≤ x ∧ x < 12) : Sp m_Query_isViewableGroup false (rmv 1 22) (ex K P J I (.inl (some (vI (bI (quGrp I q x)))))) K P J I [vR (some q), vI x] := by
  refine Sp.ofV (by decide) (Or.inr rfl) rfl ?_
  unfold quGrp
  have e0 : x * 4 + 0 = x * 4 := by omega
  refine VW.aload_n (pc' := 1) d_Query_isViewableGroup_0 rfl rfl ?_
  refine VW.iload_n (pc' := 2) d_Query_isViewableGroup_1 rfl rfl ?_
  refine VW.iconst (pc' := 3) d_Query_isViewableGroup_2 rfl (by decide) ?_
  refine VW.cV (ci := 4) (T := T4) (N := 13) (pc' := 6) d_Query_isViewableGroup_3 rfl mv_Query_parameter lk_Query_56 rfl (by first | exact hQ.k | exact hQ.k2 | exact hQ.k3 | exact hQ.k4 | exact hQ.k5 | exact hQ.k6 | exact hQ.k8 | exact hQ.k12) rfl rfl rfl (Nat.le_refl _) (Nat.le_refl _) (sp_Query_parameter hQ hx (by omega)) rfl rfl ?_
  refine VW.istore_n (pc' := 7) d_Query_isViewableGroup_6 rfl rfl ?_
  refine VW.aload_n (pc' := 8) d_Query_isViewableGroup_7 rfl rfl ?_
  refine VW.gP (ci := 4) (T := T4) (N := 13) (k := 2) (k' := 2) (pc' := 11) d_Query_isViewableGroup_8 rfl lk_Query_9 in4 rfl rfl rfl rfl (by first | exact hQ.k | exact hQ.k2 | exact hQ.k3 | exact hQ.k4 | exact hQ.k5 | exact hQ.k6 | exact hQ.k8 | exact hQ.k12) (by first | exact hQ.p2 | exact hQ.p3 | exact hQ.p4 | exact hQ.p5 | exact hQ.p6 | exact hQ.p8 | exact hQ.p12 | (simp [up2, filI] <;> rfl) | rfl) ?_
  refine VW.iload_n (pc' := 12) d_Query_isViewableGroup_11 rfl rfl ?_
  refine VW.ild (pc' := 13) d_Query_isViewableGroup_12 rfl (by first | exact hQ.k | exact hQ.k2 | exact hQ.k3 | exact hQ.k4 | exact hQ.k5 | exact hQ.k6 | exact hQ.k8 | exact hQ.k12) (by omega) (by omega) (by first | exact hQ.p2 | exact hQ.p3 | exact hQ.p4 | exact hQ.p5 | exact hQ.p6 | exact hQ.p8 | exact hQ.p12 | (simp [up2, filI] <;> rfl) | rfl) ?_
  refine VW.bipush (pc' := 15) d_Query_isViewableGroup_13 rfl (by decide) ?_
  refine VW.icmp_ne (tgt := 41) (pc' := 18) d_Query_isViewableGroup_15 rfl rfl (fun c15 => ?_) (fun c15 => ?_)
  · refine VW.iconst (pc' := 42) d_Query_isViewableGroup_41 rfl (by decide) ?_
    exact VW.iret d_Query_isViewableGroup_42 rfl rfl (Nat.zero_le _) (Nat.zero_le _) (by rw [e0] at *; first | (rw [bI1 (by omega)]; exact ex_rf) | (rw [bI0 (by omega)]; exact ex_rf))
  · refine VW.aload_n (pc' := 19) d_Query_isViewableGroup_18 rfl rfl ?_
    refine VW.iload_n (pc' := 20) d_Query_isViewableGroup_19 rfl rfl ?_
    refine VW.iconst (pc' := 21) d_Query_isViewableGroup_20 rfl (by decide) ?_
    refine VW.cV (ci := 4) (T := T4) (N := 13) (pc' := 24) d_Query_isViewableGroup_21 rfl mv_Query_parameter lk_Query_56 rfl (by first | exact hQ.k | exact hQ.k2 | exact hQ.k3 | exact hQ.k4 | exact hQ.k5 | exact hQ.k6 | exact hQ.k8 | exact hQ.k12) rfl rfl rfl (Nat.le_refl _) (Nat.le_refl _) (sp_Query_parameter hQ hx (by omega)) rfl rfl ?_
    refine VW.iconst (pc' := 25) d_Query_isViewableGroup_24 rfl (by decide) ?_
    refine VW.icmp_eq (tgt := 41) (pc' := 28) d_Query_isViewableGroup_25 rfl rfl (fun c25 => ?_) (fun c25 => ?_)
    · refine VW.iconst (pc' := 42) d_Query_isViewableGroup_41 rfl (by decide) ?_
      exact VW.iret d_Query_isViewableGroup_42 rfl rfl (Nat.zero_le _) (Nat.zero_le _) (by rw [e0] at *; first | (rw [bI1 (by omega)]; exact ex_rf) | (rw [bI0 (by omega)]; exact ex_rf))
    · refine VW.iload_n (pc' := 29) d_Query_isViewableGroup_28 rfl rfl ?_
      refine VW.if_eq (tgt := 37) (pc' := 32) d_Query_isViewableGroup_29 rfl rfl (fun c29 => ?_) (fun c29 => ?_)
      · try have e29 := bIe c29
        refine VW.iconst (pc' := 38) d_Query_isViewableGroup_37 rfl (by decide) ?_
        refine VW.goto (pc' := 42) d_Query_isViewableGroup_38 rfl ?_
        exact VW.iret d_Query_isViewableGroup_42 rfl rfl (Nat.zero_le _) (Nat.zero_le _) (by rw [e0] at *; first | (rw [bI1 (by omega)]; exact ex_rf) | (rw [bI0 (by omega)]; exact ex_rf))
      · try have e29 := bIn c29
        refine VW.iload_n (pc' := 33) d_Query_isViewableGroup_32 rfl rfl ?_
        refine VW.iconst (pc' := 34) d_Query_isViewableGroup_33 rfl (by decide) ?_
        refine VW.icmp_ne (tgt := 41) (pc' := 37) d_Query_isViewableGroup_34 rfl rfl (fun c34 => ?_) (fun c34 => ?_)
        · refine VW.iconst (pc' := 42) d_Query_isViewableGroup_41 rfl (by decide) ?_
          exact VW.iret d_Query_isViewableGroup_42 rfl rfl (Nat.zero_le _) (Nat.zero_le _) (by rw [e0] at *; first | (rw [bI1 (by omega)]; exact ex_rf) | (rw [bI0 (by omega)]; exact ex_rf))
        · refine VW.iconst (pc' := 38) d_Query_isViewableGroup_37 rfl (by decide) ?_
          refine VW.goto (pc' := 42) d_Query_isViewableGroup_38 rfl ?_
          exact VW.iret d_Query_isViewableGroup_42 rfl rfl (Nat.zero_le _) (Nat.zero_le _) (by rw [e0] at *; first | (rw [bI1 (by omega)]; exact ex_rf) | (rw [bI0 (by omega)]; exact ex_rf))
end
