/-! the wrappers of the law -/
theorem SpE.room {M : MD} {x : Bool} {R R' : Room} {Q : PE} {K : KT} {P : PT} {J I : IT} {as : List AV} (h : SpE M x R Q K P J I as) (hf : R.frames ≤ R'.frames) (hl : R.locals ≤ R'.locals) (hc : R.cells ≤ R'.cells) (hs : R.slots ≤ R'.slots) : SpE M x R' Q K P J I as := by
  intro l hst DZ ad dom szZ hwf hws
  have h0 := h l hst DZ ad dom szZ hwf hws
  cases x with
  | false =>
    have h1 := mf_room (R' := R') (show MetFree l M.1 (headSpec (wsM M) R) _ _ _ from h0) hf hl hc hs
    intro pZ eZ haZ hc' hk sZ mZ argsZ belowZ hs' happ hP _
    obtain ⟨nZ, o, h1, h2, h3, h4, LZ, h5, h6⟩ := h1 pZ eZ haZ hc' hk sZ mZ argsZ belowZ hs' happ hP trivial
    exact ⟨nZ, o, h1, h2, h3, h4, LZ, ⟨h5.1, h5.2.1, h5.2.2.mono hc hs⟩, h6⟩
  | true =>
    have h1 := mf_room (R' := R') (show MetFree l M.1 (headSpec (wsM M) R) _ _ _ from h0) hf hl hc hs
    intro pZ eZ haZ hc' hk sZ mZ argsZ belowZ hs' happ hP _
    obtain ⟨nZ, o, h1, h2, h3, h4⟩ := h1 pZ eZ haZ hc' hk sZ mZ argsZ belowZ hs' happ hP trivial
    refine ⟨nZ, o, h1, h2, h3, ?_⟩
    rcases h4 with ⟨h4, LZ, h5, h6⟩ | ⟨qZ, h4, EZ, ce, LZ, h5, h6, h7, h8, h9, h10, h11⟩
    · exact Or.inl ⟨h4, LZ, ⟨h5.1, h5.2.1, h5.2.2.mono hc hs⟩, h6⟩
    · exact Or.inr ⟨qZ, h4, EZ, ce, LZ, h5, h6, h7, h8, h9, h10.mono hc hs, h11⟩
section
variable {K : KT} {P : PT} {J I : IT} {Q0 : PE} {X Y : Nat} {p1 p2 p3 p4 p5 : Int}
/-- what a wrapper answers: a number of an exception, or 0 and the answer in out -/
def LwE (es : List (String × Int)) (Q0 : PE) : PE := fun r K' P' J' I' k n => (∃ q, q ∈ es ∧ Q0 (.inr q.1) K' P' J' I' k n ∧ r = .inl (some (vI q.2))) ∨ (∃ v J0, Q0 (.inl (some (vI v))) K' P' J0 I' k n ∧ J' = up2 J0 50 0 v ∧ r = .inl (some (vI 0)))
def LwV (es : List (String × Int)) (Q0 : PE) : PE := fun r K' P' J' I' k n => (∃ q, q ∈ es ∧ Q0 (.inr q.1) K' P' J' I' k n ∧ r = .inl (some (vI q.2))) ∨ (Q0 (.inl none) K' P' J' I' k n ∧ r = .inl (some (vI 0)))
/-- what is asked of the ends of a call -/
def LwX (es : List String) (X Y : Nat) (Q0 : PE) : Prop := ∀ (k n : Nat) (E : String) (K' : KT) (P' : PT) (J' I' : IT), Q0 (.inr E) K' P' J' I' k n → E ∈ es ∧ k ≤ X ∧ n ≤ Y
def LwR (X Y : Nat) (Q0 : PE) : Prop := ∀ (k n : Nat) (r : Option AV) (K' : KT) (P' : PT) (J' I' : IT), Q0 (.inl r) K' P' J' I' k n → (∃ v, r = some (vI v)) ∧ K' 50 = some (102, 1) ∧ k ≤ X ∧ n ≤ Y
theorem lw_table (hK : K 1000 = some (10, 0)) (hb : K 50 = some (102, 1)) (sp : SpE m_F_table true ({ frames := 14, cells := X, slots := Y, locals := 600 } : Room) Q0 K P J I [vR (some 1000), vI p1]) (hx : LwX [eIAE, eISE] X Y Q0) (hr : LwR X Y Q0) : SpE m_Law_table true ({ frames := 15, cells := X, slots := Y, locals := 660 } : Room) (LwE [(eIAE, 1), (eISE, 2)] Q0) K P J I [vR (some 1000), vI p1, vR (some 50)] := by
  refine SpE.ofV (by decide) (Or.inl rfl) rfl ?_
  refine VE.aload_n (pc' := 1) d_Law_table_0 rfl rfl ?_
  refine VE.iconst (pc' := 2) d_Law_table_1 rfl (by decide) ?_
  refine VE.aload_n (pc' := 3) d_Law_table_2 rfl rfl ?_
  refine VE.iload_n (pc' := 4) d_Law_table_3 rfl rfl ?_
  refine VE.callVXE (ci := 10) (T := T10) (N := 11) (pc' := 7) d_Law_table_4 rfl sp rfl mv_F_table.1 mv_F_table.2.1 rfl mv_F_table.2.2.1 mv_F_table.2.2.2 lk_Law_7 rfl hK rfl rfl rfl (by show 0 + X ≤ X; omega) (by show 0 + Y ≤ Y; omega) (fun k9 n9 E K' P' J' I' hz => ?_) (fun k9 n9 r K' P' J' I' hz => ?_)
  case refine_1 =>
    obtain ⟨he, b1, b2⟩ := hx _ _ _ _ _ _ _ hz
    refine ⟨Or.inr ?_, b1, b2⟩
    simp only [List.mem_cons, List.not_mem_nil, or_false] at he
    rcases he with rfl | rfl
    · have c9Z : Catch m_Law_table 4 eIAE 12 := ⟨[], [⟨0, 9, 15, 15⟩], ⟨0, 9, 12, 13⟩, eIAE, rfl, (fun z hz => (nomatch hz)), rfl, by decide, lk_Law_13, by decide, rfl⟩
      refine ⟨12, 13, 14, 3, 1, c9Z, ?_, Or.inr ⟨3, rfl, d_Law_table_12, rfl⟩, by decide, d_Law_table_13, by decide, d_Law_table_14, rfl, rfl⟩
      rw [Nat.zero_add, Nat.zero_add]
      exact Or.inl ⟨(eIAE, 1), by simp, hz, rfl⟩
    · have c9Z : Catch m_Law_table 4 eISE 15 := ⟨[⟨0, 9, 12, 13⟩], [], ⟨0, 9, 15, 15⟩, eISE, rfl, fun z hz => by
        simp only [List.mem_cons, List.not_mem_nil, or_false] at hz
        rcases hz with rfl
        · exact Or.inr ⟨by decide, _, lk_Law_13, by decide⟩, rfl, by decide, lk_Law_15, by decide, rfl⟩
      refine ⟨15, 16, 17, 3, 2, c9Z, ?_, Or.inr ⟨3, rfl, d_Law_table_15, rfl⟩, by decide, d_Law_table_16, by decide, d_Law_table_17, rfl, rfl⟩
      rw [Nat.zero_add, Nat.zero_add]
      exact Or.inl ⟨(eISE, 2), by simp, hz, rfl⟩
  obtain ⟨⟨vZ, rfl⟩, hb', b1, b2⟩ := hr _ _ _ _ _ _ _ hz
  have finZ : LwE [(eIAE, 1), (eISE, 2)] Q0 (.inl (some (vI 0))) K' P' (up2 J' 50 0 vZ) I' (0 + k9) (0 + n9) := by
    rw [Nat.zero_add, Nat.zero_add]
    exact Or.inr ⟨vZ, J', hz, rfl, rfl⟩
  refine VE.i2l (pc' := 8) d_Law_table_7 rfl ?_
  refine VE.last (pc' := 9) d_Law_table_8 rfl (by first | exact hb' | exact hb | exact hK) (by omega) (by omega) ?_
  refine VE.goto (pc' := 18) d_Law_table_9 rfl ?_
  refine VE.iconst (pc' := 19) d_Law_table_18 rfl (by decide) ?_
  exact VE.iret d_Law_table_19 rfl rfl (by show 0 + k9 ≤ X; omega) (by show 0 + n9 ≤ Y; omega) (finZ)
theorem lw_check (hK : K 1000 = some (10, 0)) (hb : K 50 = some (102, 1)) (sp : SpE m_F_check true ({ frames := 14, cells := X, slots := Y, locals := 600 } : Room) Q0 K P J I [vR (some 1000), vI p1, vI p2, vI p3, vI p4]) (hx : LwX [eIOO, eIAE, eISE] X Y Q0) (hr : LwR X Y Q0) : SpE m_Law_check true ({ frames := 15, cells := X, slots := Y, locals := 660 } : Room) (LwE [(eIOO, 1), (eIAE, 2), (eISE, 3)] Q0) K P J I [vR (some 1000), vI p1, vI p2, vI p3, vI p4, vR (some 50)] := by
  refine SpE.ofV (by decide) (Or.inl rfl) rfl ?_
  refine VE.aload (pc' := 2) d_Law_check_0 rfl rfl ?_
  refine VE.iconst (pc' := 3) d_Law_check_2 rfl (by decide) ?_
  refine VE.aload_n (pc' := 4) d_Law_check_3 rfl rfl ?_
  refine VE.iload_n (pc' := 5) d_Law_check_4 rfl rfl ?_
  refine VE.iload_n (pc' := 6) d_Law_check_5 rfl rfl ?_
  refine VE.iload_n (pc' := 7) d_Law_check_6 rfl rfl ?_
  refine VE.iload (pc' := 9) d_Law_check_7 rfl rfl ?_
  refine VE.callVXE (ci := 10) (T := T10) (N := 11) (pc' := 12) d_Law_check_9 rfl sp rfl mv_F_check.1 mv_F_check.2.1 rfl mv_F_check.2.2.1 mv_F_check.2.2.2 lk_Law_17 rfl hK rfl rfl rfl (by show 0 + X ≤ X; omega) (by show 0 + Y ≤ Y; omega) (fun k9 n9 E K' P' J' I' hz => ?_) (fun k9 n9 r K' P' J' I' hz => ?_)
  case refine_1 =>
    obtain ⟨he, b1, b2⟩ := hx _ _ _ _ _ _ _ hz
    refine ⟨Or.inr ?_, b1, b2⟩
    simp only [List.mem_cons, List.not_mem_nil, or_false] at he
    rcases he with rfl | rfl | rfl
    · have c9Z : Catch m_Law_check 9 eIOO 17 := ⟨[], [⟨0, 14, 21, 13⟩, ⟨0, 14, 25, 15⟩], ⟨0, 14, 17, 21⟩, eIOO, rfl, (fun z hz => (nomatch hz)), rfl, by decide, lk_Law_21, by decide, rfl⟩
      refine ⟨17, 19, 20, 6, 1, c9Z, ?_, Or.inl ⟨d_Law_check_17, rfl⟩, by decide, d_Law_check_19, by decide, d_Law_check_20, rfl, rfl⟩
      rw [Nat.zero_add, Nat.zero_add]
      exact Or.inl ⟨(eIOO, 1), by simp, hz, rfl⟩
    · have c9Z : Catch m_Law_check 9 eIAE 21 := ⟨[⟨0, 14, 17, 21⟩], [⟨0, 14, 25, 15⟩], ⟨0, 14, 21, 13⟩, eIAE, rfl, fun z hz => by
        simp only [List.mem_cons, List.not_mem_nil, or_false] at hz
        rcases hz with rfl
        · exact Or.inr ⟨by decide, _, lk_Law_21, by decide⟩, rfl, by decide, lk_Law_13, by decide, rfl⟩
      refine ⟨21, 23, 24, 6, 2, c9Z, ?_, Or.inl ⟨d_Law_check_21, rfl⟩, by decide, d_Law_check_23, by decide, d_Law_check_24, rfl, rfl⟩
      rw [Nat.zero_add, Nat.zero_add]
      exact Or.inl ⟨(eIAE, 2), by simp, hz, rfl⟩
    · have c9Z : Catch m_Law_check 9 eISE 25 := ⟨[⟨0, 14, 17, 21⟩, ⟨0, 14, 21, 13⟩], [], ⟨0, 14, 25, 15⟩, eISE, rfl, fun z hz => by
        simp only [List.mem_cons, List.not_mem_nil, or_false] at hz
        rcases hz with rfl | rfl
        · exact Or.inr ⟨by decide, _, lk_Law_21, by decide⟩
        · exact Or.inr ⟨by decide, _, lk_Law_13, by decide⟩, rfl, by decide, lk_Law_15, by decide, rfl⟩
      refine ⟨25, 27, 28, 6, 3, c9Z, ?_, Or.inl ⟨d_Law_check_25, rfl⟩, by decide, d_Law_check_27, by decide, d_Law_check_28, rfl, rfl⟩
      rw [Nat.zero_add, Nat.zero_add]
      exact Or.inl ⟨(eISE, 3), by simp, hz, rfl⟩
  obtain ⟨⟨vZ, rfl⟩, hb', b1, b2⟩ := hr _ _ _ _ _ _ _ hz
  have finZ : LwE [(eIOO, 1), (eIAE, 2), (eISE, 3)] Q0 (.inl (some (vI 0))) K' P' (up2 J' 50 0 vZ) I' (0 + k9) (0 + n9) := by
    rw [Nat.zero_add, Nat.zero_add]
    exact Or.inr ⟨vZ, J', hz, rfl, rfl⟩
  refine VE.i2l (pc' := 13) d_Law_check_12 rfl ?_
  refine VE.last (pc' := 14) d_Law_check_13 rfl (by first | exact hb' | exact hb | exact hK) (by omega) (by omega) ?_
  refine VE.goto (pc' := 29) d_Law_check_14 rfl ?_
  refine VE.iconst (pc' := 30) d_Law_check_29 rfl (by decide) ?_
  exact VE.iret d_Law_check_30 rfl rfl (by show 0 + k9 ≤ X; omega) (by show 0 + n9 ≤ Y; omega) (finZ)
theorem lw_refer (hK : K 1000 = some (10, 0)) (sp : SpE m_F_refer true ({ frames := 14, cells := X, slots := Y, locals := 600 } : Room) Q0 K P J I [vR (some 1000), vI p1, vI p2, vI p3, vI p4]) (hx : LwX [eIOO, eIAE, eISE] X Y Q0) (hr : ∀ (k n : Nat) (r : Option AV) (K' : KT) (P' : PT) (J' I' : IT), Q0 (.inl r) K' P' J' I' k n → r = none ∧ k ≤ X ∧ n ≤ Y) : SpE m_Law_refer true ({ frames := 15, cells := X, slots := Y, locals := 660 } : Room) (LwV [(eIOO, 1), (eIAE, 2), (eISE, 3)] Q0) K P J I [vR (some 1000), vI p1, vI p2, vI p3, vI p4] := by
  refine SpE.ofV (by decide) (Or.inl rfl) rfl ?_
  refine VE.aload_n (pc' := 1) d_Law_refer_0 rfl rfl ?_
  refine VE.iload_n (pc' := 2) d_Law_refer_1 rfl rfl ?_
  refine VE.iload_n (pc' := 3) d_Law_refer_2 rfl rfl ?_
  refine VE.iload_n (pc' := 4) d_Law_refer_3 rfl rfl ?_
  refine VE.iload (pc' := 6) d_Law_refer_4 rfl rfl ?_
  refine VE.callVXE (ci := 10) (T := T10) (N := 11) (pc' := 9) d_Law_refer_6 rfl sp rfl mv_F_refer.1 mv_F_refer.2.1 rfl mv_F_refer.2.2.1 mv_F_refer.2.2.2 lk_Law_23 rfl hK rfl rfl rfl (by show 0 + X ≤ X; omega) (by show 0 + Y ≤ Y; omega) (fun k9 n9 E K' P' J' I' hz => ?_) (fun k9 n9 r K' P' J' I' hz => ?_)
  case refine_1 =>
    obtain ⟨he, b1, b2⟩ := hx _ _ _ _ _ _ _ hz
    refine ⟨Or.inr ?_, b1, b2⟩
    simp only [List.mem_cons, List.not_mem_nil, or_false] at he
    rcases he with rfl | rfl | rfl
    · have c9Z : Catch m_Law_refer 6 eIOO 12 := ⟨[], [⟨0, 9, 16, 13⟩, ⟨0, 9, 20, 15⟩], ⟨0, 9, 12, 21⟩, eIOO, rfl, (fun z hz => (nomatch hz)), rfl, by decide, lk_Law_21, by decide, rfl⟩
      refine ⟨12, 14, 15, 5, 1, c9Z, ?_, Or.inl ⟨d_Law_refer_12, rfl⟩, by decide, d_Law_refer_14, by decide, d_Law_refer_15, rfl, rfl⟩
      rw [Nat.zero_add, Nat.zero_add]
      exact Or.inl ⟨(eIOO, 1), by simp, hz, rfl⟩
    · have c9Z : Catch m_Law_refer 6 eIAE 16 := ⟨[⟨0, 9, 12, 21⟩], [⟨0, 9, 20, 15⟩], ⟨0, 9, 16, 13⟩, eIAE, rfl, fun z hz => by
        simp only [List.mem_cons, List.not_mem_nil, or_false] at hz
        rcases hz with rfl
        · exact Or.inr ⟨by decide, _, lk_Law_21, by decide⟩, rfl, by decide, lk_Law_13, by decide, rfl⟩
      refine ⟨16, 18, 19, 5, 2, c9Z, ?_, Or.inl ⟨d_Law_refer_16, rfl⟩, by decide, d_Law_refer_18, by decide, d_Law_refer_19, rfl, rfl⟩
      rw [Nat.zero_add, Nat.zero_add]
      exact Or.inl ⟨(eIAE, 2), by simp, hz, rfl⟩
    · have c9Z : Catch m_Law_refer 6 eISE 20 := ⟨[⟨0, 9, 12, 21⟩, ⟨0, 9, 16, 13⟩], [], ⟨0, 9, 20, 15⟩, eISE, rfl, fun z hz => by
        simp only [List.mem_cons, List.not_mem_nil, or_false] at hz
        rcases hz with rfl | rfl
        · exact Or.inr ⟨by decide, _, lk_Law_21, by decide⟩
        · exact Or.inr ⟨by decide, _, lk_Law_13, by decide⟩, rfl, by decide, lk_Law_15, by decide, rfl⟩
      refine ⟨20, 22, 23, 5, 3, c9Z, ?_, Or.inl ⟨d_Law_refer_20, rfl⟩, by decide, d_Law_refer_22, by decide, d_Law_refer_23, rfl, rfl⟩
      rw [Nat.zero_add, Nat.zero_add]
      exact Or.inl ⟨(eISE, 3), by simp, hz, rfl⟩
  obtain ⟨rfl, b1, b2⟩ := hr _ _ _ _ _ _ _ hz
  have finZ : LwV [(eIOO, 1), (eIAE, 2), (eISE, 3)] Q0 (.inl (some (vI 0))) K' P' J' I' (0 + k9) (0 + n9) := by
    rw [Nat.zero_add, Nat.zero_add]
    exact Or.inr ⟨hz, rfl⟩
  refine VE.goto (pc' := 24) d_Law_refer_9 rfl ?_
  refine VE.iconst (pc' := 25) d_Law_refer_24 rfl (by decide) ?_
  exact VE.iret d_Law_refer_25 rfl rfl (by show 0 + k9 ≤ X; omega) (by show 0 + n9 ≤ Y; omega) (finZ)
theorem lw_veil (hK : K 1000 = some (10, 0)) (hb : K 50 = some (102, 1)) (sp : SpE m_F_veil true ({ frames := 14, cells := X, slots := Y, locals := 600 } : Room) Q0 K P J I [vR (some 1000), vI p1, vI p2, vI p3, vI p4, vI p5]) (hx : LwX [eIOO, eIAE, eISE] X Y Q0) (hr : LwR X Y Q0) : SpE m_Law_veil true ({ frames := 15, cells := X, slots := Y, locals := 660 } : Room) (LwE [(eIOO, 1), (eIAE, 2), (eISE, 3)] Q0) K P J I [vR (some 1000), vI p1, vI p2, vI p3, vI p4, vI p5, vR (some 50)] := by
  refine SpE.ofV (by decide) (Or.inl rfl) rfl ?_
  refine VE.aload (pc' := 2) d_Law_veil_0 rfl rfl ?_
  refine VE.iconst (pc' := 3) d_Law_veil_2 rfl (by decide) ?_
  refine VE.aload_n (pc' := 4) d_Law_veil_3 rfl rfl ?_
  refine VE.iload_n (pc' := 5) d_Law_veil_4 rfl rfl ?_
  refine VE.iload_n (pc' := 6) d_Law_veil_5 rfl rfl ?_
  refine VE.iload_n (pc' := 7) d_Law_veil_6 rfl rfl ?_
  refine VE.iload (pc' := 9) d_Law_veil_7 rfl rfl ?_
  refine VE.iload (pc' := 11) d_Law_veil_9 rfl rfl ?_
  refine VE.callVXE (ci := 10) (T := T10) (N := 11) (pc' := 14) d_Law_veil_11 rfl sp rfl mv_F_veil.1 mv_F_veil.2.1 rfl mv_F_veil.2.2.1 mv_F_veil.2.2.2 lk_Law_27 rfl hK rfl rfl rfl (by show 0 + X ≤ X; omega) (by show 0 + Y ≤ Y; omega) (fun k9 n9 E K' P' J' I' hz => ?_) (fun k9 n9 r K' P' J' I' hz => ?_)
  case refine_1 =>
    obtain ⟨he, b1, b2⟩ := hx _ _ _ _ _ _ _ hz
    refine ⟨Or.inr ?_, b1, b2⟩
    simp only [List.mem_cons, List.not_mem_nil, or_false] at he
    rcases he with rfl | rfl | rfl
    · have c9Z : Catch m_Law_veil 11 eIOO 19 := ⟨[], [⟨0, 16, 23, 13⟩, ⟨0, 16, 27, 15⟩], ⟨0, 16, 19, 21⟩, eIOO, rfl, (fun z hz => (nomatch hz)), rfl, by decide, lk_Law_21, by decide, rfl⟩
      refine ⟨19, 21, 22, 7, 1, c9Z, ?_, Or.inl ⟨d_Law_veil_19, rfl⟩, by decide, d_Law_veil_21, by decide, d_Law_veil_22, rfl, rfl⟩
      rw [Nat.zero_add, Nat.zero_add]
      exact Or.inl ⟨(eIOO, 1), by simp, hz, rfl⟩
    · have c9Z : Catch m_Law_veil 11 eIAE 23 := ⟨[⟨0, 16, 19, 21⟩], [⟨0, 16, 27, 15⟩], ⟨0, 16, 23, 13⟩, eIAE, rfl, fun z hz => by
        simp only [List.mem_cons, List.not_mem_nil, or_false] at hz
        rcases hz with rfl
        · exact Or.inr ⟨by decide, _, lk_Law_21, by decide⟩, rfl, by decide, lk_Law_13, by decide, rfl⟩
      refine ⟨23, 25, 26, 7, 2, c9Z, ?_, Or.inl ⟨d_Law_veil_23, rfl⟩, by decide, d_Law_veil_25, by decide, d_Law_veil_26, rfl, rfl⟩
      rw [Nat.zero_add, Nat.zero_add]
      exact Or.inl ⟨(eIAE, 2), by simp, hz, rfl⟩
    · have c9Z : Catch m_Law_veil 11 eISE 27 := ⟨[⟨0, 16, 19, 21⟩, ⟨0, 16, 23, 13⟩], [], ⟨0, 16, 27, 15⟩, eISE, rfl, fun z hz => by
        simp only [List.mem_cons, List.not_mem_nil, or_false] at hz
        rcases hz with rfl | rfl
        · exact Or.inr ⟨by decide, _, lk_Law_21, by decide⟩
        · exact Or.inr ⟨by decide, _, lk_Law_13, by decide⟩, rfl, by decide, lk_Law_15, by decide, rfl⟩
      refine ⟨27, 29, 30, 7, 3, c9Z, ?_, Or.inl ⟨d_Law_veil_27, rfl⟩, by decide, d_Law_veil_29, by decide, d_Law_veil_30, rfl, rfl⟩
      rw [Nat.zero_add, Nat.zero_add]
      exact Or.inl ⟨(eISE, 3), by simp, hz, rfl⟩
  obtain ⟨⟨vZ, rfl⟩, hb', b1, b2⟩ := hr _ _ _ _ _ _ _ hz
  have finZ : LwE [(eIOO, 1), (eIAE, 2), (eISE, 3)] Q0 (.inl (some (vI 0))) K' P' (up2 J' 50 0 vZ) I' (0 + k9) (0 + n9) := by
    rw [Nat.zero_add, Nat.zero_add]
    exact Or.inr ⟨vZ, J', hz, rfl, rfl⟩
  refine VE.i2l (pc' := 15) d_Law_veil_14 rfl ?_
  refine VE.last (pc' := 16) d_Law_veil_15 rfl (by first | exact hb' | exact hb | exact hK) (by omega) (by omega) ?_
  refine VE.goto (pc' := 31) d_Law_veil_16 rfl ?_
  refine VE.iconst (pc' := 32) d_Law_veil_31 rfl (by decide) ?_
  exact VE.iret d_Law_veil_32 rfl rfl (by show 0 + k9 ≤ X; omega) (by show 0 + n9 ≤ Y; omega) (finZ)
theorem lw_begin (hK : K 1000 = some (10, 0)) (hb : K 50 = some (102, 1)) (sp : SpE m_F_begin true ({ frames := 14, cells := X, slots := Y, locals := 600 } : Room) Q0 K P J I [vR (some 1000), vI p1]) (hx : LwX [eIOO, eISE] X Y Q0) (hr : LwR X Y Q0) : SpE m_Law_begin true ({ frames := 15, cells := X, slots := Y, locals := 660 } : Room) (LwE [(eIOO, 1), (eISE, 2)] Q0) K P J I [vR (some 1000), vI p1, vR (some 50)] := by
  refine SpE.ofV (by decide) (Or.inl rfl) rfl ?_
  refine VE.aload_n (pc' := 1) d_Law_begin_0 rfl rfl ?_
  refine VE.iconst (pc' := 2) d_Law_begin_1 rfl (by decide) ?_
  refine VE.aload_n (pc' := 3) d_Law_begin_2 rfl rfl ?_
  refine VE.iload_n (pc' := 4) d_Law_begin_3 rfl rfl ?_
  refine VE.callVXE (ci := 10) (T := T10) (N := 11) (pc' := 7) d_Law_begin_4 rfl sp rfl mv_F_begin.1 mv_F_begin.2.1 rfl mv_F_begin.2.2.1 mv_F_begin.2.2.2 lk_Law_31 rfl hK rfl rfl rfl (by show 0 + X ≤ X; omega) (by show 0 + Y ≤ Y; omega) (fun k9 n9 E K' P' J' I' hz => ?_) (fun k9 n9 r K' P' J' I' hz => ?_)
  case refine_1 =>
    obtain ⟨he, b1, b2⟩ := hx _ _ _ _ _ _ _ hz
    refine ⟨Or.inr ?_, b1, b2⟩
    simp only [List.mem_cons, List.not_mem_nil, or_false] at he
    rcases he with rfl | rfl
    · have c9Z : Catch m_Law_begin 4 eIOO 12 := ⟨[], [⟨0, 9, 15, 15⟩], ⟨0, 9, 12, 21⟩, eIOO, rfl, (fun z hz => (nomatch hz)), rfl, by decide, lk_Law_21, by decide, rfl⟩
      refine ⟨12, 13, 14, 3, 1, c9Z, ?_, Or.inr ⟨3, rfl, d_Law_begin_12, rfl⟩, by decide, d_Law_begin_13, by decide, d_Law_begin_14, rfl, rfl⟩
      rw [Nat.zero_add, Nat.zero_add]
      exact Or.inl ⟨(eIOO, 1), by simp, hz, rfl⟩
    · have c9Z : Catch m_Law_begin 4 eISE 15 := ⟨[⟨0, 9, 12, 21⟩], [], ⟨0, 9, 15, 15⟩, eISE, rfl, fun z hz => by
        simp only [List.mem_cons, List.not_mem_nil, or_false] at hz
        rcases hz with rfl
        · exact Or.inr ⟨by decide, _, lk_Law_21, by decide⟩, rfl, by decide, lk_Law_15, by decide, rfl⟩
      refine ⟨15, 16, 17, 3, 2, c9Z, ?_, Or.inr ⟨3, rfl, d_Law_begin_15, rfl⟩, by decide, d_Law_begin_16, by decide, d_Law_begin_17, rfl, rfl⟩
      rw [Nat.zero_add, Nat.zero_add]
      exact Or.inl ⟨(eISE, 2), by simp, hz, rfl⟩
  obtain ⟨⟨vZ, rfl⟩, hb', b1, b2⟩ := hr _ _ _ _ _ _ _ hz
  have finZ : LwE [(eIOO, 1), (eISE, 2)] Q0 (.inl (some (vI 0))) K' P' (up2 J' 50 0 vZ) I' (0 + k9) (0 + n9) := by
    rw [Nat.zero_add, Nat.zero_add]
    exact Or.inr ⟨vZ, J', hz, rfl, rfl⟩
  refine VE.i2l (pc' := 8) d_Law_begin_7 rfl ?_
  refine VE.last (pc' := 9) d_Law_begin_8 rfl (by first | exact hb' | exact hb | exact hK) (by omega) (by omega) ?_
  refine VE.goto (pc' := 18) d_Law_begin_9 rfl ?_
  refine VE.iconst (pc' := 19) d_Law_begin_18 rfl (by decide) ?_
  exact VE.iret d_Law_begin_19 rfl rfl (by show 0 + k9 ≤ X; omega) (by show 0 + n9 ≤ Y; omega) (finZ)
theorem lw_value (hK : K 1000 = some (10, 0)) (hb : K 50 = some (102, 1)) (sp : SpE m_F_value true ({ frames := 14, cells := X, slots := Y, locals := 600 } : Room) Q0 K P J I [vR (some 1000), vI p1]) (hx : LwX [eIAE, eISE] X Y Q0) (hr : LwR X Y Q0) : SpE m_Law_value true ({ frames := 15, cells := X, slots := Y, locals := 660 } : Room) (LwE [(eIAE, 1), (eISE, 2)] Q0) K P J I [vR (some 1000), vI p1, vR (some 50)] := by
  refine SpE.ofV (by decide) (Or.inl rfl) rfl ?_
  refine VE.aload_n (pc' := 1) d_Law_value_0 rfl rfl ?_
  refine VE.iconst (pc' := 2) d_Law_value_1 rfl (by decide) ?_
  refine VE.aload_n (pc' := 3) d_Law_value_2 rfl rfl ?_
  refine VE.iload_n (pc' := 4) d_Law_value_3 rfl rfl ?_
  refine VE.callVXE (ci := 10) (T := T10) (N := 11) (pc' := 7) d_Law_value_4 rfl sp rfl mv_F_value.1 mv_F_value.2.1 rfl mv_F_value.2.2.1 mv_F_value.2.2.2 lk_Law_34 rfl hK rfl rfl rfl (by show 0 + X ≤ X; omega) (by show 0 + Y ≤ Y; omega) (fun k9 n9 E K' P' J' I' hz => ?_) (fun k9 n9 r K' P' J' I' hz => ?_)
  case refine_1 =>
    obtain ⟨he, b1, b2⟩ := hx _ _ _ _ _ _ _ hz
    refine ⟨Or.inr ?_, b1, b2⟩
    simp only [List.mem_cons, List.not_mem_nil, or_false] at he
    rcases he with rfl | rfl
    · have c9Z : Catch m_Law_value 4 eIAE 12 := ⟨[], [⟨0, 9, 15, 15⟩], ⟨0, 9, 12, 13⟩, eIAE, rfl, (fun z hz => (nomatch hz)), rfl, by decide, lk_Law_13, by decide, rfl⟩
      refine ⟨12, 13, 14, 3, 1, c9Z, ?_, Or.inr ⟨3, rfl, d_Law_value_12, rfl⟩, by decide, d_Law_value_13, by decide, d_Law_value_14, rfl, rfl⟩
      rw [Nat.zero_add, Nat.zero_add]
      exact Or.inl ⟨(eIAE, 1), by simp, hz, rfl⟩
    · have c9Z : Catch m_Law_value 4 eISE 15 := ⟨[⟨0, 9, 12, 13⟩], [], ⟨0, 9, 15, 15⟩, eISE, rfl, fun z hz => by
        simp only [List.mem_cons, List.not_mem_nil, or_false] at hz
        rcases hz with rfl
        · exact Or.inr ⟨by decide, _, lk_Law_13, by decide⟩, rfl, by decide, lk_Law_15, by decide, rfl⟩
      refine ⟨15, 16, 17, 3, 2, c9Z, ?_, Or.inr ⟨3, rfl, d_Law_value_15, rfl⟩, by decide, d_Law_value_16, by decide, d_Law_value_17, rfl, rfl⟩
      rw [Nat.zero_add, Nat.zero_add]
      exact Or.inl ⟨(eISE, 2), by simp, hz, rfl⟩
  obtain ⟨⟨vZ, rfl⟩, hb', b1, b2⟩ := hr _ _ _ _ _ _ _ hz
  have finZ : LwE [(eIAE, 1), (eISE, 2)] Q0 (.inl (some (vI 0))) K' P' (up2 J' 50 0 vZ) I' (0 + k9) (0 + n9) := by
    rw [Nat.zero_add, Nat.zero_add]
    exact Or.inr ⟨vZ, J', hz, rfl, rfl⟩
  refine VE.i2l (pc' := 8) d_Law_value_7 rfl ?_
  refine VE.last (pc' := 9) d_Law_value_8 rfl (by first | exact hb' | exact hb | exact hK) (by omega) (by omega) ?_
  refine VE.goto (pc' := 18) d_Law_value_9 rfl ?_
  refine VE.iconst (pc' := 19) d_Law_value_18 rfl (by decide) ?_
  exact VE.iret d_Law_value_19 rfl rfl (by show 0 + k9 ≤ X; omega) (by show 0 + n9 ≤ Y; omega) (finZ)
theorem lw_insert (hK : K 1000 = some (10, 0)) (hb : K 50 = some (102, 1)) (sp : SpE m_F_insert true ({ frames := 14, cells := X, slots := Y, locals := 600 } : Room) Q0 K P J I [vR (some 1000), vI p1, vI p2]) (hx : LwX [eIOO, eISE] X Y Q0) (hr : LwR X Y Q0) : SpE m_Law_insert true ({ frames := 15, cells := X, slots := Y, locals := 660 } : Room) (LwE [(eIOO, 1), (eISE, 2)] Q0) K P J I [vR (some 1000), vI p1, vI p2, vR (some 50)] := by
  refine SpE.ofV (by decide) (Or.inl rfl) rfl ?_
  refine VE.aload_n (pc' := 1) d_Law_insert_0 rfl rfl ?_
  refine VE.iconst (pc' := 2) d_Law_insert_1 rfl (by decide) ?_
  refine VE.aload_n (pc' := 3) d_Law_insert_2 rfl rfl ?_
  refine VE.iload_n (pc' := 4) d_Law_insert_3 rfl rfl ?_
  refine VE.iload_n (pc' := 5) d_Law_insert_4 rfl rfl ?_
  refine VE.callVXE (ci := 10) (T := T10) (N := 11) (pc' := 8) d_Law_insert_5 rfl sp rfl mv_F_insert.1 mv_F_insert.2.1 rfl mv_F_insert.2.2.1 mv_F_insert.2.2.2 lk_Law_37 rfl hK rfl rfl rfl (by show 0 + X ≤ X; omega) (by show 0 + Y ≤ Y; omega) (fun k9 n9 E K' P' J' I' hz => ?_) (fun k9 n9 r K' P' J' I' hz => ?_)
  case refine_1 =>
    obtain ⟨he, b1, b2⟩ := hx _ _ _ _ _ _ _ hz
    refine ⟨Or.inr ?_, b1, b2⟩
    simp only [List.mem_cons, List.not_mem_nil, or_false] at he
    rcases he with rfl | rfl
    · have c9Z : Catch m_Law_insert 5 eIOO 13 := ⟨[], [⟨0, 10, 17, 15⟩], ⟨0, 10, 13, 21⟩, eIOO, rfl, (fun z hz => (nomatch hz)), rfl, by decide, lk_Law_21, by decide, rfl⟩
      refine ⟨13, 15, 16, 4, 1, c9Z, ?_, Or.inl ⟨d_Law_insert_13, rfl⟩, by decide, d_Law_insert_15, by decide, d_Law_insert_16, rfl, rfl⟩
      rw [Nat.zero_add, Nat.zero_add]
      exact Or.inl ⟨(eIOO, 1), by simp, hz, rfl⟩
    · have c9Z : Catch m_Law_insert 5 eISE 17 := ⟨[⟨0, 10, 13, 21⟩], [], ⟨0, 10, 17, 15⟩, eISE, rfl, fun z hz => by
        simp only [List.mem_cons, List.not_mem_nil, or_false] at hz
        rcases hz with rfl
        · exact Or.inr ⟨by decide, _, lk_Law_21, by decide⟩, rfl, by decide, lk_Law_15, by decide, rfl⟩
      refine ⟨17, 19, 20, 4, 2, c9Z, ?_, Or.inl ⟨d_Law_insert_17, rfl⟩, by decide, d_Law_insert_19, by decide, d_Law_insert_20, rfl, rfl⟩
      rw [Nat.zero_add, Nat.zero_add]
      exact Or.inl ⟨(eISE, 2), by simp, hz, rfl⟩
  obtain ⟨⟨vZ, rfl⟩, hb', b1, b2⟩ := hr _ _ _ _ _ _ _ hz
  have finZ : LwE [(eIOO, 1), (eISE, 2)] Q0 (.inl (some (vI 0))) K' P' (up2 J' 50 0 vZ) I' (0 + k9) (0 + n9) := by
    rw [Nat.zero_add, Nat.zero_add]
    exact Or.inr ⟨vZ, J', hz, rfl, rfl⟩
  refine VE.i2l (pc' := 9) d_Law_insert_8 rfl ?_
  refine VE.last (pc' := 10) d_Law_insert_9 rfl (by first | exact hb' | exact hb | exact hK) (by omega) (by omega) ?_
  refine VE.goto (pc' := 21) d_Law_insert_10 rfl ?_
  refine VE.iconst (pc' := 22) d_Law_insert_21 rfl (by decide) ?_
  exact VE.iret d_Law_insert_22 rfl rfl (by show 0 + k9 ≤ X; omega) (by show 0 + n9 ≤ Y; omega) (finZ)
theorem lw_update (hK : K 1000 = some (10, 0)) (hb : K 50 = some (102, 1)) (sp : SpE m_F_update true ({ frames := 14, cells := X, slots := Y, locals := 600 } : Room) Q0 K P J I [vR (some 1000), vI p1, vI p2, vI p3, vI p4, vI p5]) (hx : LwX [eIOO, eIAE, eISE] X Y Q0) (hr : LwR X Y Q0) : SpE m_Law_update true ({ frames := 15, cells := X, slots := Y, locals := 660 } : Room) (LwE [(eIOO, 1), (eIAE, 2), (eISE, 3)] Q0) K P J I [vR (some 1000), vI p1, vI p2, vI p3, vI p4, vI p5, vR (some 50)] := by
  refine SpE.ofV (by decide) (Or.inl rfl) rfl ?_
  refine VE.aload (pc' := 2) d_Law_update_0 rfl rfl ?_
  refine VE.iconst (pc' := 3) d_Law_update_2 rfl (by decide) ?_
  refine VE.aload_n (pc' := 4) d_Law_update_3 rfl rfl ?_
  refine VE.iload_n (pc' := 5) d_Law_update_4 rfl rfl ?_
  refine VE.iload_n (pc' := 6) d_Law_update_5 rfl rfl ?_
  refine VE.iload_n (pc' := 7) d_Law_update_6 rfl rfl ?_
  refine VE.iload (pc' := 9) d_Law_update_7 rfl rfl ?_
  refine VE.iload (pc' := 11) d_Law_update_9 rfl rfl ?_
  refine VE.callVXE (ci := 10) (T := T10) (N := 11) (pc' := 14) d_Law_update_11 rfl sp rfl mv_F_update.1 mv_F_update.2.1 rfl mv_F_update.2.2.1 mv_F_update.2.2.2 lk_Law_41 rfl hK rfl rfl rfl (by show 0 + X ≤ X; omega) (by show 0 + Y ≤ Y; omega) (fun k9 n9 E K' P' J' I' hz => ?_) (fun k9 n9 r K' P' J' I' hz => ?_)
  case refine_1 =>
    obtain ⟨he, b1, b2⟩ := hx _ _ _ _ _ _ _ hz
    refine ⟨Or.inr ?_, b1, b2⟩
    simp only [List.mem_cons, List.not_mem_nil, or_false] at he
    rcases he with rfl | rfl | rfl
    · have c9Z : Catch m_Law_update 11 eIOO 19 := ⟨[], [⟨0, 16, 23, 13⟩, ⟨0, 16, 27, 15⟩], ⟨0, 16, 19, 21⟩, eIOO, rfl, (fun z hz => (nomatch hz)), rfl, by decide, lk_Law_21, by decide, rfl⟩
      refine ⟨19, 21, 22, 7, 1, c9Z, ?_, Or.inl ⟨d_Law_update_19, rfl⟩, by decide, d_Law_update_21, by decide, d_Law_update_22, rfl, rfl⟩
      rw [Nat.zero_add, Nat.zero_add]
      exact Or.inl ⟨(eIOO, 1), by simp, hz, rfl⟩
    · have c9Z : Catch m_Law_update 11 eIAE 23 := ⟨[⟨0, 16, 19, 21⟩], [⟨0, 16, 27, 15⟩], ⟨0, 16, 23, 13⟩, eIAE, rfl, fun z hz => by
        simp only [List.mem_cons, List.not_mem_nil, or_false] at hz
        rcases hz with rfl
        · exact Or.inr ⟨by decide, _, lk_Law_21, by decide⟩, rfl, by decide, lk_Law_13, by decide, rfl⟩
      refine ⟨23, 25, 26, 7, 2, c9Z, ?_, Or.inl ⟨d_Law_update_23, rfl⟩, by decide, d_Law_update_25, by decide, d_Law_update_26, rfl, rfl⟩
      rw [Nat.zero_add, Nat.zero_add]
      exact Or.inl ⟨(eIAE, 2), by simp, hz, rfl⟩
    · have c9Z : Catch m_Law_update 11 eISE 27 := ⟨[⟨0, 16, 19, 21⟩, ⟨0, 16, 23, 13⟩], [], ⟨0, 16, 27, 15⟩, eISE, rfl, fun z hz => by
        simp only [List.mem_cons, List.not_mem_nil, or_false] at hz
        rcases hz with rfl | rfl
        · exact Or.inr ⟨by decide, _, lk_Law_21, by decide⟩
        · exact Or.inr ⟨by decide, _, lk_Law_13, by decide⟩, rfl, by decide, lk_Law_15, by decide, rfl⟩
      refine ⟨27, 29, 30, 7, 3, c9Z, ?_, Or.inl ⟨d_Law_update_27, rfl⟩, by decide, d_Law_update_29, by decide, d_Law_update_30, rfl, rfl⟩
      rw [Nat.zero_add, Nat.zero_add]
      exact Or.inl ⟨(eISE, 3), by simp, hz, rfl⟩
  obtain ⟨⟨vZ, rfl⟩, hb', b1, b2⟩ := hr _ _ _ _ _ _ _ hz
  have finZ : LwE [(eIOO, 1), (eIAE, 2), (eISE, 3)] Q0 (.inl (some (vI 0))) K' P' (up2 J' 50 0 vZ) I' (0 + k9) (0 + n9) := by
    rw [Nat.zero_add, Nat.zero_add]
    exact Or.inr ⟨vZ, J', hz, rfl, rfl⟩
  refine VE.i2l (pc' := 15) d_Law_update_14 rfl ?_
  refine VE.last (pc' := 16) d_Law_update_15 rfl (by first | exact hb' | exact hb | exact hK) (by omega) (by omega) ?_
  refine VE.goto (pc' := 31) d_Law_update_16 rfl ?_
  refine VE.iconst (pc' := 32) d_Law_update_31 rfl (by decide) ?_
  exact VE.iret d_Law_update_32 rfl rfl (by show 0 + k9 ≤ X; omega) (by show 0 + n9 ≤ Y; omega) (finZ)
theorem lw_delete (hK : K 1000 = some (10, 0)) (hb : K 50 = some (102, 1)) (sp : SpE m_F_delete true ({ frames := 14, cells := X, slots := Y, locals := 600 } : Room) Q0 K P J I [vR (some 1000), vI p1, vI p2, vI p3]) (hx : LwX [eIOO, eISE] X Y Q0) (hr : LwR X Y Q0) : SpE m_Law_delete true ({ frames := 15, cells := X, slots := Y, locals := 660 } : Room) (LwE [(eIOO, 1), (eISE, 2)] Q0) K P J I [vR (some 1000), vI p1, vI p2, vI p3, vR (some 50)] := by
  refine SpE.ofV (by decide) (Or.inl rfl) rfl ?_
  refine VE.aload (pc' := 2) d_Law_delete_0 rfl rfl ?_
  refine VE.iconst (pc' := 3) d_Law_delete_2 rfl (by decide) ?_
  refine VE.aload_n (pc' := 4) d_Law_delete_3 rfl rfl ?_
  refine VE.iload_n (pc' := 5) d_Law_delete_4 rfl rfl ?_
  refine VE.iload_n (pc' := 6) d_Law_delete_5 rfl rfl ?_
  refine VE.iload_n (pc' := 7) d_Law_delete_6 rfl rfl ?_
  refine VE.callVXE (ci := 10) (T := T10) (N := 11) (pc' := 10) d_Law_delete_7 rfl sp rfl mv_F_delete.1 mv_F_delete.2.1 rfl mv_F_delete.2.2.1 mv_F_delete.2.2.2 lk_Law_44 rfl hK rfl rfl rfl (by show 0 + X ≤ X; omega) (by show 0 + Y ≤ Y; omega) (fun k9 n9 E K' P' J' I' hz => ?_) (fun k9 n9 r K' P' J' I' hz => ?_)
  case refine_1 =>
    obtain ⟨he, b1, b2⟩ := hx _ _ _ _ _ _ _ hz
    refine ⟨Or.inr ?_, b1, b2⟩
    simp only [List.mem_cons, List.not_mem_nil, or_false] at he
    rcases he with rfl | rfl
    · have c9Z : Catch m_Law_delete 7 eIOO 15 := ⟨[], [⟨0, 12, 19, 15⟩], ⟨0, 12, 15, 21⟩, eIOO, rfl, (fun z hz => (nomatch hz)), rfl, by decide, lk_Law_21, by decide, rfl⟩
      refine ⟨15, 17, 18, 5, 1, c9Z, ?_, Or.inl ⟨d_Law_delete_15, rfl⟩, by decide, d_Law_delete_17, by decide, d_Law_delete_18, rfl, rfl⟩
      rw [Nat.zero_add, Nat.zero_add]
      exact Or.inl ⟨(eIOO, 1), by simp, hz, rfl⟩
    · have c9Z : Catch m_Law_delete 7 eISE 19 := ⟨[⟨0, 12, 15, 21⟩], [], ⟨0, 12, 19, 15⟩, eISE, rfl, fun z hz => by
        simp only [List.mem_cons, List.not_mem_nil, or_false] at hz
        rcases hz with rfl
        · exact Or.inr ⟨by decide, _, lk_Law_21, by decide⟩, rfl, by decide, lk_Law_15, by decide, rfl⟩
      refine ⟨19, 21, 22, 5, 2, c9Z, ?_, Or.inl ⟨d_Law_delete_19, rfl⟩, by decide, d_Law_delete_21, by decide, d_Law_delete_22, rfl, rfl⟩
      rw [Nat.zero_add, Nat.zero_add]
      exact Or.inl ⟨(eISE, 2), by simp, hz, rfl⟩
  obtain ⟨⟨vZ, rfl⟩, hb', b1, b2⟩ := hr _ _ _ _ _ _ _ hz
  have finZ : LwE [(eIOO, 1), (eISE, 2)] Q0 (.inl (some (vI 0))) K' P' (up2 J' 50 0 vZ) I' (0 + k9) (0 + n9) := by
    rw [Nat.zero_add, Nat.zero_add]
    exact Or.inr ⟨vZ, J', hz, rfl, rfl⟩
  refine VE.i2l (pc' := 11) d_Law_delete_10 rfl ?_
  refine VE.last (pc' := 12) d_Law_delete_11 rfl (by first | exact hb' | exact hb | exact hK) (by omega) (by omega) ?_
  refine VE.goto (pc' := 23) d_Law_delete_12 rfl ?_
  refine VE.iconst (pc' := 24) d_Law_delete_23 rfl (by decide) ?_
  exact VE.iret d_Law_delete_24 rfl rfl (by show 0 + k9 ≤ X; omega) (by show 0 + n9 ≤ Y; omega) (finZ)
theorem lw_commit (hK : K 1000 = some (10, 0)) (hb : K 50 = some (102, 1)) (sp : SpE m_F_commit true ({ frames := 14, cells := X, slots := Y, locals := 600 } : Room) Q0 K P J I [vR (some 1000), vI p1]) (hx : LwX [eIOO, eISE] X Y Q0) (hr : LwR X Y Q0) : SpE m_Law_commit true ({ frames := 15, cells := X, slots := Y, locals := 660 } : Room) (LwE [(eIOO, 1), (eISE, 2)] Q0) K P J I [vR (some 1000), vI p1, vR (some 50)] := by
  refine SpE.ofV (by decide) (Or.inl rfl) rfl ?_
  refine VE.aload_n (pc' := 1) d_Law_commit_0 rfl rfl ?_
  refine VE.iconst (pc' := 2) d_Law_commit_1 rfl (by decide) ?_
  refine VE.aload_n (pc' := 3) d_Law_commit_2 rfl rfl ?_
  refine VE.iload_n (pc' := 4) d_Law_commit_3 rfl rfl ?_
  refine VE.callVXE (ci := 10) (T := T10) (N := 11) (pc' := 7) d_Law_commit_4 rfl sp rfl mv_F_commit.1 mv_F_commit.2.1 rfl mv_F_commit.2.2.1 mv_F_commit.2.2.2 lk_Law_48 rfl hK rfl rfl rfl (by show 0 + X ≤ X; omega) (by show 0 + Y ≤ Y; omega) (fun k9 n9 E K' P' J' I' hz => ?_) (fun k9 n9 r K' P' J' I' hz => ?_)
  case refine_1 =>
    obtain ⟨he, b1, b2⟩ := hx _ _ _ _ _ _ _ hz
    refine ⟨Or.inr ?_, b1, b2⟩
    simp only [List.mem_cons, List.not_mem_nil, or_false] at he
    rcases he with rfl | rfl
    · have c9Z : Catch m_Law_commit 4 eIOO 12 := ⟨[], [⟨0, 9, 15, 15⟩], ⟨0, 9, 12, 21⟩, eIOO, rfl, (fun z hz => (nomatch hz)), rfl, by decide, lk_Law_21, by decide, rfl⟩
      refine ⟨12, 13, 14, 3, 1, c9Z, ?_, Or.inr ⟨3, rfl, d_Law_commit_12, rfl⟩, by decide, d_Law_commit_13, by decide, d_Law_commit_14, rfl, rfl⟩
      rw [Nat.zero_add, Nat.zero_add]
      exact Or.inl ⟨(eIOO, 1), by simp, hz, rfl⟩
    · have c9Z : Catch m_Law_commit 4 eISE 15 := ⟨[⟨0, 9, 12, 21⟩], [], ⟨0, 9, 15, 15⟩, eISE, rfl, fun z hz => by
        simp only [List.mem_cons, List.not_mem_nil, or_false] at hz
        rcases hz with rfl
        · exact Or.inr ⟨by decide, _, lk_Law_21, by decide⟩, rfl, by decide, lk_Law_15, by decide, rfl⟩
      refine ⟨15, 16, 17, 3, 2, c9Z, ?_, Or.inr ⟨3, rfl, d_Law_commit_15, rfl⟩, by decide, d_Law_commit_16, by decide, d_Law_commit_17, rfl, rfl⟩
      rw [Nat.zero_add, Nat.zero_add]
      exact Or.inl ⟨(eISE, 2), by simp, hz, rfl⟩
  obtain ⟨⟨vZ, rfl⟩, hb', b1, b2⟩ := hr _ _ _ _ _ _ _ hz
  have finZ : LwE [(eIOO, 1), (eISE, 2)] Q0 (.inl (some (vI 0))) K' P' (up2 J' 50 0 vZ) I' (0 + k9) (0 + n9) := by
    rw [Nat.zero_add, Nat.zero_add]
    exact Or.inr ⟨vZ, J', hz, rfl, rfl⟩
  refine VE.i2l (pc' := 8) d_Law_commit_7 rfl ?_
  refine VE.last (pc' := 9) d_Law_commit_8 rfl (by first | exact hb' | exact hb | exact hK) (by omega) (by omega) ?_
  refine VE.goto (pc' := 18) d_Law_commit_9 rfl ?_
  refine VE.iconst (pc' := 19) d_Law_commit_18 rfl (by decide) ?_
  exact VE.iret d_Law_commit_19 rfl rfl (by show 0 + k9 ≤ X; omega) (by show 0 + n9 ≤ Y; omega) (finZ)
theorem lw_abort (hK : K 1000 = some (10, 0)) (hb : K 50 = some (102, 1)) (sp : SpE m_F_abort true ({ frames := 14, cells := X, slots := Y, locals := 600 } : Room) Q0 K P J I [vR (some 1000), vI p1]) (hx : LwX [eIOO, eISE] X Y Q0) (hr : LwR X Y Q0) : SpE m_Law_abort true ({ frames := 15, cells := X, slots := Y, locals := 660 } : Room) (LwE [(eIOO, 1), (eISE, 2)] Q0) K P J I [vR (some 1000), vI p1, vR (some 50)] := by
  refine SpE.ofV (by decide) (Or.inl rfl) rfl ?_
  refine VE.aload_n (pc' := 1) d_Law_abort_0 rfl rfl ?_
  refine VE.iconst (pc' := 2) d_Law_abort_1 rfl (by decide) ?_
  refine VE.aload_n (pc' := 3) d_Law_abort_2 rfl rfl ?_
  refine VE.iload_n (pc' := 4) d_Law_abort_3 rfl rfl ?_
  refine VE.callVXE (ci := 10) (T := T10) (N := 11) (pc' := 7) d_Law_abort_4 rfl sp rfl mv_F_abort.1 mv_F_abort.2.1 rfl mv_F_abort.2.2.1 mv_F_abort.2.2.2 lk_Law_51 rfl hK rfl rfl rfl (by show 0 + X ≤ X; omega) (by show 0 + Y ≤ Y; omega) (fun k9 n9 E K' P' J' I' hz => ?_) (fun k9 n9 r K' P' J' I' hz => ?_)
  case refine_1 =>
    obtain ⟨he, b1, b2⟩ := hx _ _ _ _ _ _ _ hz
    refine ⟨Or.inr ?_, b1, b2⟩
    simp only [List.mem_cons, List.not_mem_nil, or_false] at he
    rcases he with rfl | rfl
    · have c9Z : Catch m_Law_abort 4 eIOO 12 := ⟨[], [⟨0, 9, 15, 15⟩], ⟨0, 9, 12, 21⟩, eIOO, rfl, (fun z hz => (nomatch hz)), rfl, by decide, lk_Law_21, by decide, rfl⟩
      refine ⟨12, 13, 14, 3, 1, c9Z, ?_, Or.inr ⟨3, rfl, d_Law_abort_12, rfl⟩, by decide, d_Law_abort_13, by decide, d_Law_abort_14, rfl, rfl⟩
      rw [Nat.zero_add, Nat.zero_add]
      exact Or.inl ⟨(eIOO, 1), by simp, hz, rfl⟩
    · have c9Z : Catch m_Law_abort 4 eISE 15 := ⟨[⟨0, 9, 12, 21⟩], [], ⟨0, 9, 15, 15⟩, eISE, rfl, fun z hz => by
        simp only [List.mem_cons, List.not_mem_nil, or_false] at hz
        rcases hz with rfl
        · exact Or.inr ⟨by decide, _, lk_Law_21, by decide⟩, rfl, by decide, lk_Law_15, by decide, rfl⟩
      refine ⟨15, 16, 17, 3, 2, c9Z, ?_, Or.inr ⟨3, rfl, d_Law_abort_15, rfl⟩, by decide, d_Law_abort_16, by decide, d_Law_abort_17, rfl, rfl⟩
      rw [Nat.zero_add, Nat.zero_add]
      exact Or.inl ⟨(eISE, 2), by simp, hz, rfl⟩
  obtain ⟨⟨vZ, rfl⟩, hb', b1, b2⟩ := hr _ _ _ _ _ _ _ hz
  have finZ : LwE [(eIOO, 1), (eISE, 2)] Q0 (.inl (some (vI 0))) K' P' (up2 J' 50 0 vZ) I' (0 + k9) (0 + n9) := by
    rw [Nat.zero_add, Nat.zero_add]
    exact Or.inr ⟨vZ, J', hz, rfl, rfl⟩
  refine VE.i2l (pc' := 8) d_Law_abort_7 rfl ?_
  refine VE.last (pc' := 9) d_Law_abort_8 rfl (by first | exact hb' | exact hb | exact hK) (by omega) (by omega) ?_
  refine VE.goto (pc' := 18) d_Law_abort_9 rfl ?_
  refine VE.iconst (pc' := 19) d_Law_abort_18 rfl (by decide) ?_
  exact VE.iret d_Law_abort_19 rfl rfl (by show 0 + k9 ≤ X; omega) (by show 0 + n9 ≤ Y; omega) (finZ)
theorem lw_state (hK : K 1000 = some (10, 0)) (hb : K 50 = some (102, 1)) (sp : SpE m_F_state true ({ frames := 14, cells := X, slots := Y, locals := 600 } : Room) Q0 K P J I [vR (some 1000), vI p1]) (hx : LwX [eIOO] X Y Q0) (hr : LwR X Y Q0) : SpE m_Law_state true ({ frames := 15, cells := X, slots := Y, locals := 660 } : Room) (LwE [(eIOO, 1)] Q0) K P J I [vR (some 1000), vI p1, vR (some 50)] := by
  refine SpE.ofV (by decide) (Or.inl rfl) rfl ?_
  refine VE.aload_n (pc' := 1) d_Law_state_0 rfl rfl ?_
  refine VE.iconst (pc' := 2) d_Law_state_1 rfl (by decide) ?_
  refine VE.aload_n (pc' := 3) d_Law_state_2 rfl rfl ?_
  refine VE.iload_n (pc' := 4) d_Law_state_3 rfl rfl ?_
  refine VE.callVXE (ci := 10) (T := T10) (N := 11) (pc' := 7) d_Law_state_4 rfl sp rfl mv_F_state.1 mv_F_state.2.1 rfl mv_F_state.2.2.1 mv_F_state.2.2.2 lk_Law_54 rfl hK rfl rfl rfl (by show 0 + X ≤ X; omega) (by show 0 + Y ≤ Y; omega) (fun k9 n9 E K' P' J' I' hz => ?_) (fun k9 n9 r K' P' J' I' hz => ?_)
  case refine_1 =>
    obtain ⟨he, b1, b2⟩ := hx _ _ _ _ _ _ _ hz
    refine ⟨Or.inr ?_, b1, b2⟩
    simp only [List.mem_cons, List.not_mem_nil, or_false] at he
    rcases he with rfl
    · have c9Z : Catch m_Law_state 4 eIOO 12 := ⟨[], [], ⟨0, 9, 12, 21⟩, eIOO, rfl, (fun z hz => (nomatch hz)), rfl, by decide, lk_Law_21, by decide, rfl⟩
      refine ⟨12, 13, 14, 3, 1, c9Z, ?_, Or.inr ⟨3, rfl, d_Law_state_12, rfl⟩, by decide, d_Law_state_13, by decide, d_Law_state_14, rfl, rfl⟩
      rw [Nat.zero_add, Nat.zero_add]
      exact Or.inl ⟨(eIOO, 1), by simp, hz, rfl⟩
  obtain ⟨⟨vZ, rfl⟩, hb', b1, b2⟩ := hr _ _ _ _ _ _ _ hz
  have finZ : LwE [(eIOO, 1)] Q0 (.inl (some (vI 0))) K' P' (up2 J' 50 0 vZ) I' (0 + k9) (0 + n9) := by
    rw [Nat.zero_add, Nat.zero_add]
    exact Or.inr ⟨vZ, J', hz, rfl, rfl⟩
  refine VE.i2l (pc' := 8) d_Law_state_7 rfl ?_
  refine VE.last (pc' := 9) d_Law_state_8 rfl (by first | exact hb' | exact hb | exact hK) (by omega) (by omega) ?_
  refine VE.goto (pc' := 15) d_Law_state_9 rfl ?_
  refine VE.iconst (pc' := 16) d_Law_state_15 rfl (by decide) ?_
  exact VE.iret d_Law_state_16 rfl rfl (by show 0 + k9 ≤ X; omega) (by show 0 + n9 ≤ Y; omega) (finZ)
theorem lw_outcome (hK : K 1000 = some (10, 0)) (hb : K 50 = some (102, 1)) (sp : SpE m_F_outcome true ({ frames := 14, cells := X, slots := Y, locals := 600 } : Room) Q0 K P J I [vR (some 1000), vI p1]) (hx : LwX [eIOO] X Y Q0) (hr : LwR X Y Q0) : SpE m_Law_outcome true ({ frames := 15, cells := X, slots := Y, locals := 660 } : Room) (LwE [(eIOO, 1)] Q0) K P J I [vR (some 1000), vI p1, vR (some 50)] := by
  refine SpE.ofV (by decide) (Or.inl rfl) rfl ?_
  refine VE.aload_n (pc' := 1) d_Law_outcome_0 rfl rfl ?_
  refine VE.iconst (pc' := 2) d_Law_outcome_1 rfl (by decide) ?_
  refine VE.aload_n (pc' := 3) d_Law_outcome_2 rfl rfl ?_
  refine VE.iload_n (pc' := 4) d_Law_outcome_3 rfl rfl ?_
  refine VE.callVXE (ci := 10) (T := T10) (N := 11) (pc' := 7) d_Law_outcome_4 rfl sp rfl mv_F_outcome.1 mv_F_outcome.2.1 rfl mv_F_outcome.2.2.1 mv_F_outcome.2.2.2 lk_Law_57 rfl hK rfl rfl rfl (by show 0 + X ≤ X; omega) (by show 0 + Y ≤ Y; omega) (fun k9 n9 E K' P' J' I' hz => ?_) (fun k9 n9 r K' P' J' I' hz => ?_)
  case refine_1 =>
    obtain ⟨he, b1, b2⟩ := hx _ _ _ _ _ _ _ hz
    refine ⟨Or.inr ?_, b1, b2⟩
    simp only [List.mem_cons, List.not_mem_nil, or_false] at he
    rcases he with rfl
    · have c9Z : Catch m_Law_outcome 4 eIOO 12 := ⟨[], [], ⟨0, 9, 12, 21⟩, eIOO, rfl, (fun z hz => (nomatch hz)), rfl, by decide, lk_Law_21, by decide, rfl⟩
      refine ⟨12, 13, 14, 3, 1, c9Z, ?_, Or.inr ⟨3, rfl, d_Law_outcome_12, rfl⟩, by decide, d_Law_outcome_13, by decide, d_Law_outcome_14, rfl, rfl⟩
      rw [Nat.zero_add, Nat.zero_add]
      exact Or.inl ⟨(eIOO, 1), by simp, hz, rfl⟩
  obtain ⟨⟨vZ, rfl⟩, hb', b1, b2⟩ := hr _ _ _ _ _ _ _ hz
  have finZ : LwE [(eIOO, 1)] Q0 (.inl (some (vI 0))) K' P' (up2 J' 50 0 vZ) I' (0 + k9) (0 + n9) := by
    rw [Nat.zero_add, Nat.zero_add]
    exact Or.inr ⟨vZ, J', hz, rfl, rfl⟩
  refine VE.i2l (pc' := 8) d_Law_outcome_7 rfl ?_
  refine VE.last (pc' := 9) d_Law_outcome_8 rfl (by first | exact hb' | exact hb | exact hK) (by omega) (by omega) ?_
  refine VE.goto (pc' := 15) d_Law_outcome_9 rfl ?_
  refine VE.iconst (pc' := 16) d_Law_outcome_15 rfl (by decide) ?_
  exact VE.iret d_Law_outcome_16 rfl rfl (by show 0 + k9 ≤ X; omega) (by show 0 + n9 ≤ Y; omega) (finZ)
theorem lw_waitsFor (hK : K 1000 = some (10, 0)) (hb : K 50 = some (102, 1)) (sp : SpE m_F_waitsFor true ({ frames := 14, cells := X, slots := Y, locals := 600 } : Room) Q0 K P J I [vR (some 1000), vI p1]) (hx : LwX [eIOO] X Y Q0) (hr : LwR X Y Q0) : SpE m_Law_waitsFor true ({ frames := 15, cells := X, slots := Y, locals := 660 } : Room) (LwE [(eIOO, 1)] Q0) K P J I [vR (some 1000), vI p1, vR (some 50)] := by
  refine SpE.ofV (by decide) (Or.inl rfl) rfl ?_
  refine VE.aload_n (pc' := 1) d_Law_waitsFor_0 rfl rfl ?_
  refine VE.iconst (pc' := 2) d_Law_waitsFor_1 rfl (by decide) ?_
  refine VE.aload_n (pc' := 3) d_Law_waitsFor_2 rfl rfl ?_
  refine VE.iload_n (pc' := 4) d_Law_waitsFor_3 rfl rfl ?_
  refine VE.callVXE (ci := 10) (T := T10) (N := 11) (pc' := 7) d_Law_waitsFor_4 rfl sp rfl mv_F_waitsFor.1 mv_F_waitsFor.2.1 rfl mv_F_waitsFor.2.2.1 mv_F_waitsFor.2.2.2 lk_Law_60 rfl hK rfl rfl rfl (by show 0 + X ≤ X; omega) (by show 0 + Y ≤ Y; omega) (fun k9 n9 E K' P' J' I' hz => ?_) (fun k9 n9 r K' P' J' I' hz => ?_)
  case refine_1 =>
    obtain ⟨he, b1, b2⟩ := hx _ _ _ _ _ _ _ hz
    refine ⟨Or.inr ?_, b1, b2⟩
    simp only [List.mem_cons, List.not_mem_nil, or_false] at he
    rcases he with rfl
    · have c9Z : Catch m_Law_waitsFor 4 eIOO 12 := ⟨[], [], ⟨0, 9, 12, 21⟩, eIOO, rfl, (fun z hz => (nomatch hz)), rfl, by decide, lk_Law_21, by decide, rfl⟩
      refine ⟨12, 13, 14, 3, 1, c9Z, ?_, Or.inr ⟨3, rfl, d_Law_waitsFor_12, rfl⟩, by decide, d_Law_waitsFor_13, by decide, d_Law_waitsFor_14, rfl, rfl⟩
      rw [Nat.zero_add, Nat.zero_add]
      exact Or.inl ⟨(eIOO, 1), by simp, hz, rfl⟩
  obtain ⟨⟨vZ, rfl⟩, hb', b1, b2⟩ := hr _ _ _ _ _ _ _ hz
  have finZ : LwE [(eIOO, 1)] Q0 (.inl (some (vI 0))) K' P' (up2 J' 50 0 vZ) I' (0 + k9) (0 + n9) := by
    rw [Nat.zero_add, Nat.zero_add]
    exact Or.inr ⟨vZ, J', hz, rfl, rfl⟩
  refine VE.i2l (pc' := 8) d_Law_waitsFor_7 rfl ?_
  refine VE.last (pc' := 9) d_Law_waitsFor_8 rfl (by first | exact hb' | exact hb | exact hK) (by omega) (by omega) ?_
  refine VE.goto (pc' := 15) d_Law_waitsFor_9 rfl ?_
  refine VE.iconst (pc' := 16) d_Law_waitsFor_15 rfl (by decide) ?_
  exact VE.iret d_Law_waitsFor_16 rfl rfl (by show 0 + k9 ≤ X; omega) (by show 0 + n9 ≤ Y; omega) (finZ)
theorem lw_hasRead (hK : K 1000 = some (10, 0)) (hb : K 50 = some (102, 1)) (sp : SpE m_F_hasRead true ({ frames := 14, cells := X, slots := Y, locals := 600 } : Room) Q0 K P J I [vR (some 1000), vI p1, vI p2, vI p3]) (hx : LwX [eIOO] X Y Q0) (hr : LwR X Y Q0) (hr2 : ∀ (k n : Nat) (v : Int) (K' : KT) (P' : PT) (J' I' : IT), Q0 (.inl (some (vI v))) K' P' J' I' k n → v = 0 ∨ v = 1) : SpE m_Law_hasRead true ({ frames := 15, cells := X, slots := Y, locals := 660 } : Room) (LwE [(eIOO, 1)] Q0) K P J I [vR (some 1000), vI p1, vI p2, vI p3, vR (some 50)] := by
  refine SpE.ofV (by decide) (Or.inl rfl) rfl ?_
  refine VE.aload (pc' := 2) d_Law_hasRead_0 rfl rfl ?_
  refine VE.iconst (pc' := 3) d_Law_hasRead_2 rfl (by decide) ?_
  refine VE.aload_n (pc' := 4) d_Law_hasRead_3 rfl rfl ?_
  refine VE.iload_n (pc' := 5) d_Law_hasRead_4 rfl rfl ?_
  refine VE.iload_n (pc' := 6) d_Law_hasRead_5 rfl rfl ?_
  refine VE.iload_n (pc' := 7) d_Law_hasRead_6 rfl rfl ?_
  refine VE.callVXE (ci := 10) (T := T10) (N := 11) (pc' := 10) d_Law_hasRead_7 rfl sp rfl mv_F_hasRead.1 mv_F_hasRead.2.1 rfl mv_F_hasRead.2.2.1 mv_F_hasRead.2.2.2 lk_Law_63 rfl hK rfl rfl rfl (by show 0 + X ≤ X; omega) (by show 0 + Y ≤ Y; omega) (fun k9 n9 E K' P' J' I' hz => ?_) (fun k9 n9 r K' P' J' I' hz => ?_)
  case refine_1 =>
    obtain ⟨he, b1, b2⟩ := hx _ _ _ _ _ _ _ hz
    refine ⟨Or.inr ?_, b1, b2⟩
    simp only [List.mem_cons, List.not_mem_nil, or_false] at he
    rcases he with rfl
    · have c9Z : Catch m_Law_hasRead 7 eIOO 22 := ⟨[], [], ⟨0, 19, 22, 21⟩, eIOO, rfl, (fun z hz => (nomatch hz)), rfl, by decide, lk_Law_21, by decide, rfl⟩
      refine ⟨22, 24, 25, 5, 1, c9Z, ?_, Or.inl ⟨d_Law_hasRead_22, rfl⟩, by decide, d_Law_hasRead_24, by decide, d_Law_hasRead_25, rfl, rfl⟩
      rw [Nat.zero_add, Nat.zero_add]
      exact Or.inl ⟨(eIOO, 1), by simp, hz, rfl⟩
  obtain ⟨⟨v, rfl⟩, hb', b1, b2⟩ := hr _ _ _ _ _ _ _ hz
  have hv := hr2 _ _ _ _ _ _ _ hz
  have fin0 : v = 0 → LwE [(eIOO, 1)] Q0 (.inl (some (vI 0))) K' P' (up2 J' 50 0 0) I' (0 + k9) (0 + n9) := fun e => by
    rw [Nat.zero_add, Nat.zero_add]
    exact Or.inr ⟨v, J', hz, by rw [e], rfl⟩
  have fin1 : v ≠ 0 → LwE [(eIOO, 1)] Q0 (.inl (some (vI 0))) K' P' (up2 J' 50 0 1) I' (0 + k9) (0 + n9) := fun e => by
    rw [Nat.zero_add, Nat.zero_add]
    exact Or.inr ⟨v, J', hz, by rw [show v = 1 by omega], rfl⟩
  refine VE.if_eq (tgt := 17) (pc' := 13) d_Law_hasRead_10 rfl rfl (fun c10 => ?_) (fun c10 => ?_)
  · try have e10Z := bIe c10
    refine VE.lconst (pc' := 18) (z := 0) d_Law_hasRead_17 rfl (by decide) (by decide) ?_
    refine VE.last (pc' := 19) d_Law_hasRead_18 rfl (by first | exact hb' | exact hb | exact hK) (by omega) (by omega) ?_
    refine VE.goto (pc' := 26) d_Law_hasRead_19 rfl ?_
    refine VE.iconst (pc' := 27) d_Law_hasRead_26 rfl (by decide) ?_
    exact VE.iret d_Law_hasRead_27 rfl rfl (by show 0 + k9 ≤ X; omega) (by show 0 + n9 ≤ Y; omega) (by first | exact fin0 c10 | exact fin1 c10)
  · try have e10Z := bIn c10
    refine VE.lconst (pc' := 14) (z := 1) d_Law_hasRead_13 rfl (by decide) (by decide) ?_
    refine VE.goto (pc' := 18) d_Law_hasRead_14 rfl ?_
    refine VE.last (pc' := 19) d_Law_hasRead_18 rfl (by first | exact hb' | exact hb | exact hK) (by omega) (by omega) ?_
    refine VE.goto (pc' := 26) d_Law_hasRead_19 rfl ?_
    refine VE.iconst (pc' := 27) d_Law_hasRead_26 rfl (by decide) ?_
    exact VE.iret d_Law_hasRead_27 rfl rfl (by show 0 + k9 ≤ X; omega) (by show 0 + n9 ≤ Y; omega) (by first | exact fin0 c10 | exact fin1 c10)
theorem lw_own (hK : K 1000 = some (10, 0)) (hb : K 50 = some (102, 1)) (sp : SpE m_F_own true ({ frames := 14, cells := X, slots := Y, locals := 600 } : Room) Q0 K P J I [vR (some 1000), vI p1, vI p2, vI p3, vI p4]) (hx : LwX [eIOO] X Y Q0) (hr : LwR X Y Q0) : SpE m_Law_own true ({ frames := 15, cells := X, slots := Y, locals := 660 } : Room) (LwE [(eIOO, 1)] Q0) K P J I [vR (some 1000), vI p1, vI p2, vI p3, vI p4, vR (some 50)] := by
  refine SpE.ofV (by decide) (Or.inl rfl) rfl ?_
  refine VE.aload (pc' := 2) d_Law_own_0 rfl rfl ?_
  refine VE.iconst (pc' := 3) d_Law_own_2 rfl (by decide) ?_
  refine VE.aload_n (pc' := 4) d_Law_own_3 rfl rfl ?_
  refine VE.iload_n (pc' := 5) d_Law_own_4 rfl rfl ?_
  refine VE.iload_n (pc' := 6) d_Law_own_5 rfl rfl ?_
  refine VE.iload_n (pc' := 7) d_Law_own_6 rfl rfl ?_
  refine VE.iload (pc' := 9) d_Law_own_7 rfl rfl ?_
  refine VE.callVXE (ci := 10) (T := T10) (N := 11) (pc' := 12) d_Law_own_9 rfl sp rfl mv_F_own.1 mv_F_own.2.1 rfl mv_F_own.2.2.1 mv_F_own.2.2.2 lk_Law_67 rfl hK rfl rfl rfl (by show 0 + X ≤ X; omega) (by show 0 + Y ≤ Y; omega) (fun k9 n9 E K' P' J' I' hz => ?_) (fun k9 n9 r K' P' J' I' hz => ?_)
  case refine_1 =>
    obtain ⟨he, b1, b2⟩ := hx _ _ _ _ _ _ _ hz
    refine ⟨Or.inr ?_, b1, b2⟩
    simp only [List.mem_cons, List.not_mem_nil, or_false] at he
    rcases he with rfl
    · have c9Z : Catch m_Law_own 9 eIOO 17 := ⟨[], [], ⟨0, 14, 17, 21⟩, eIOO, rfl, (fun z hz => (nomatch hz)), rfl, by decide, lk_Law_21, by decide, rfl⟩
      refine ⟨17, 19, 20, 6, 1, c9Z, ?_, Or.inl ⟨d_Law_own_17, rfl⟩, by decide, d_Law_own_19, by decide, d_Law_own_20, rfl, rfl⟩
      rw [Nat.zero_add, Nat.zero_add]
      exact Or.inl ⟨(eIOO, 1), by simp, hz, rfl⟩
  obtain ⟨⟨vZ, rfl⟩, hb', b1, b2⟩ := hr _ _ _ _ _ _ _ hz
  have finZ : LwE [(eIOO, 1)] Q0 (.inl (some (vI 0))) K' P' (up2 J' 50 0 vZ) I' (0 + k9) (0 + n9) := by
    rw [Nat.zero_add, Nat.zero_add]
    exact Or.inr ⟨vZ, J', hz, rfl, rfl⟩
  refine VE.i2l (pc' := 13) d_Law_own_12 rfl ?_
  refine VE.last (pc' := 14) d_Law_own_13 rfl (by first | exact hb' | exact hb | exact hK) (by omega) (by omega) ?_
  refine VE.goto (pc' := 21) d_Law_own_14 rfl ?_
  refine VE.iconst (pc' := 22) d_Law_own_21 rfl (by decide) ?_
  exact VE.iret d_Law_own_22 rfl rfl (by show 0 + k9 ≤ X; omega) (by show 0 + n9 ≤ Y; omega) (finZ)
theorem lw_committed (hK : K 1000 = some (10, 0)) (hb : K 50 = some (102, 1)) (sp : SpE m_F_committed true ({ frames := 14, cells := X, slots := Y, locals := 600 } : Room) Q0 K P J I [vR (some 1000), vI p1, vI p2, vI p3]) (hx : LwX [eIOO] X Y Q0) (hr : LwR X Y Q0) : SpE m_Law_committed true ({ frames := 15, cells := X, slots := Y, locals := 660 } : Room) (LwE [(eIOO, 1)] Q0) K P J I [vR (some 1000), vI p1, vI p2, vI p3, vR (some 50)] := by
  refine SpE.ofV (by decide) (Or.inl rfl) rfl ?_
  refine VE.aload (pc' := 2) d_Law_committed_0 rfl rfl ?_
  refine VE.iconst (pc' := 3) d_Law_committed_2 rfl (by decide) ?_
  refine VE.aload_n (pc' := 4) d_Law_committed_3 rfl rfl ?_
  refine VE.iload_n (pc' := 5) d_Law_committed_4 rfl rfl ?_
  refine VE.iload_n (pc' := 6) d_Law_committed_5 rfl rfl ?_
  refine VE.iload_n (pc' := 7) d_Law_committed_6 rfl rfl ?_
  refine VE.callVXE (ci := 10) (T := T10) (N := 11) (pc' := 10) d_Law_committed_7 rfl sp rfl mv_F_committed.1 mv_F_committed.2.1 rfl mv_F_committed.2.2.1 mv_F_committed.2.2.2 lk_Law_70 rfl hK rfl rfl rfl (by show 0 + X ≤ X; omega) (by show 0 + Y ≤ Y; omega) (fun k9 n9 E K' P' J' I' hz => ?_) (fun k9 n9 r K' P' J' I' hz => ?_)
  case refine_1 =>
    obtain ⟨he, b1, b2⟩ := hx _ _ _ _ _ _ _ hz
    refine ⟨Or.inr ?_, b1, b2⟩
    simp only [List.mem_cons, List.not_mem_nil, or_false] at he
    rcases he with rfl
    · have c9Z : Catch m_Law_committed 7 eIOO 15 := ⟨[], [], ⟨0, 12, 15, 21⟩, eIOO, rfl, (fun z hz => (nomatch hz)), rfl, by decide, lk_Law_21, by decide, rfl⟩
      refine ⟨15, 17, 18, 5, 1, c9Z, ?_, Or.inl ⟨d_Law_committed_15, rfl⟩, by decide, d_Law_committed_17, by decide, d_Law_committed_18, rfl, rfl⟩
      rw [Nat.zero_add, Nat.zero_add]
      exact Or.inl ⟨(eIOO, 1), by simp, hz, rfl⟩
  obtain ⟨⟨vZ, rfl⟩, hb', b1, b2⟩ := hr _ _ _ _ _ _ _ hz
  have finZ : LwE [(eIOO, 1)] Q0 (.inl (some (vI 0))) K' P' (up2 J' 50 0 vZ) I' (0 + k9) (0 + n9) := by
    rw [Nat.zero_add, Nat.zero_add]
    exact Or.inr ⟨vZ, J', hz, rfl, rfl⟩
  refine VE.i2l (pc' := 11) d_Law_committed_10 rfl ?_
  refine VE.last (pc' := 12) d_Law_committed_11 rfl (by first | exact hb' | exact hb | exact hK) (by omega) (by omega) ?_
  refine VE.goto (pc' := 19) d_Law_committed_12 rfl ?_
  refine VE.iconst (pc' := 20) d_Law_committed_19 rfl (by decide) ?_
  exact VE.iret d_Law_committed_20 rfl rfl (by show 0 + k9 ≤ X; omega) (by show 0 + n9 ≤ Y; omega) (finZ)
theorem lw_committedByLog (hK : K 1000 = some (10, 0)) (hb : K 50 = some (102, 1)) (sp : SpE m_F_committedByLog true ({ frames := 14, cells := X, slots := Y, locals := 600 } : Room) Q0 K P J I [vR (some 1000), vI p1, vI p2, vI p3]) (hx : LwX [eIOO] X Y Q0) (hr : LwR X Y Q0) : SpE m_Law_committedByLog true ({ frames := 15, cells := X, slots := Y, locals := 660 } : Room) (LwE [(eIOO, 1)] Q0) K P J I [vR (some 1000), vI p1, vI p2, vI p3, vR (some 50)] := by
  refine SpE.ofV (by decide) (Or.inl rfl) rfl ?_
  refine VE.aload (pc' := 2) d_Law_committedByLog_0 rfl rfl ?_
  refine VE.iconst (pc' := 3) d_Law_committedByLog_2 rfl (by decide) ?_
  refine VE.aload_n (pc' := 4) d_Law_committedByLog_3 rfl rfl ?_
  refine VE.iload_n (pc' := 5) d_Law_committedByLog_4 rfl rfl ?_
  refine VE.iload_n (pc' := 6) d_Law_committedByLog_5 rfl rfl ?_
  refine VE.iload_n (pc' := 7) d_Law_committedByLog_6 rfl rfl ?_
  refine VE.callVXE (ci := 10) (T := T10) (N := 11) (pc' := 10) d_Law_committedByLog_7 rfl sp rfl mv_F_committedByLog.1 mv_F_committedByLog.2.1 rfl mv_F_committedByLog.2.2.1 mv_F_committedByLog.2.2.2 lk_Law_73 rfl hK rfl rfl rfl (by show 0 + X ≤ X; omega) (by show 0 + Y ≤ Y; omega) (fun k9 n9 E K' P' J' I' hz => ?_) (fun k9 n9 r K' P' J' I' hz => ?_)
  case refine_1 =>
    obtain ⟨he, b1, b2⟩ := hx _ _ _ _ _ _ _ hz
    refine ⟨Or.inr ?_, b1, b2⟩
    simp only [List.mem_cons, List.not_mem_nil, or_false] at he
    rcases he with rfl
    · have c9Z : Catch m_Law_committedByLog 7 eIOO 15 := ⟨[], [], ⟨0, 12, 15, 21⟩, eIOO, rfl, (fun z hz => (nomatch hz)), rfl, by decide, lk_Law_21, by decide, rfl⟩
      refine ⟨15, 17, 18, 5, 1, c9Z, ?_, Or.inl ⟨d_Law_committedByLog_15, rfl⟩, by decide, d_Law_committedByLog_17, by decide, d_Law_committedByLog_18, rfl, rfl⟩
      rw [Nat.zero_add, Nat.zero_add]
      exact Or.inl ⟨(eIOO, 1), by simp, hz, rfl⟩
  obtain ⟨⟨vZ, rfl⟩, hb', b1, b2⟩ := hr _ _ _ _ _ _ _ hz
  have finZ : LwE [(eIOO, 1)] Q0 (.inl (some (vI 0))) K' P' (up2 J' 50 0 vZ) I' (0 + k9) (0 + n9) := by
    rw [Nat.zero_add, Nat.zero_add]
    exact Or.inr ⟨vZ, J', hz, rfl, rfl⟩
  refine VE.i2l (pc' := 11) d_Law_committedByLog_10 rfl ?_
  refine VE.last (pc' := 12) d_Law_committedByLog_11 rfl (by first | exact hb' | exact hb | exact hK) (by omega) (by omega) ?_
  refine VE.goto (pc' := 19) d_Law_committedByLog_12 rfl ?_
  refine VE.iconst (pc' := 20) d_Law_committedByLog_19 rfl (by decide) ?_
  exact VE.iret d_Law_committedByLog_20 rfl rfl (by show 0 + k9 ≤ X; omega) (by show 0 + n9 ≤ Y; omega) (finZ)
theorem lw_rowsOf (hK : K 1000 = some (10, 0)) (hb : K 50 = some (102, 1)) (sp : SpE m_F_rowsOf true ({ frames := 14, cells := X, slots := Y, locals := 600 } : Room) Q0 K P J I [vR (some 1000), vI p1]) (hx : LwX [eIOO] X Y Q0) (hr : LwR X Y Q0) : SpE m_Law_rowsOf true ({ frames := 15, cells := X, slots := Y, locals := 660 } : Room) (LwE [(eIOO, 1)] Q0) K P J I [vR (some 1000), vI p1, vR (some 50)] := by
  refine SpE.ofV (by decide) (Or.inl rfl) rfl ?_
  refine VE.aload_n (pc' := 1) d_Law_rowsOf_0 rfl rfl ?_
  refine VE.iconst (pc' := 2) d_Law_rowsOf_1 rfl (by decide) ?_
  refine VE.aload_n (pc' := 3) d_Law_rowsOf_2 rfl rfl ?_
  refine VE.iload_n (pc' := 4) d_Law_rowsOf_3 rfl rfl ?_
  refine VE.callVXE (ci := 10) (T := T10) (N := 11) (pc' := 7) d_Law_rowsOf_4 rfl sp rfl mv_F_rowsOf.1 mv_F_rowsOf.2.1 rfl mv_F_rowsOf.2.2.1 mv_F_rowsOf.2.2.2 lk_Law_76 rfl hK rfl rfl rfl (by show 0 + X ≤ X; omega) (by show 0 + Y ≤ Y; omega) (fun k9 n9 E K' P' J' I' hz => ?_) (fun k9 n9 r K' P' J' I' hz => ?_)
  case refine_1 =>
    obtain ⟨he, b1, b2⟩ := hx _ _ _ _ _ _ _ hz
    refine ⟨Or.inr ?_, b1, b2⟩
    simp only [List.mem_cons, List.not_mem_nil, or_false] at he
    rcases he with rfl
    · have c9Z : Catch m_Law_rowsOf 4 eIOO 12 := ⟨[], [], ⟨0, 9, 12, 21⟩, eIOO, rfl, (fun z hz => (nomatch hz)), rfl, by decide, lk_Law_21, by decide, rfl⟩
      refine ⟨12, 13, 14, 3, 1, c9Z, ?_, Or.inr ⟨3, rfl, d_Law_rowsOf_12, rfl⟩, by decide, d_Law_rowsOf_13, by decide, d_Law_rowsOf_14, rfl, rfl⟩
      rw [Nat.zero_add, Nat.zero_add]
      exact Or.inl ⟨(eIOO, 1), by simp, hz, rfl⟩
  obtain ⟨⟨vZ, rfl⟩, hb', b1, b2⟩ := hr _ _ _ _ _ _ _ hz
  have finZ : LwE [(eIOO, 1)] Q0 (.inl (some (vI 0))) K' P' (up2 J' 50 0 vZ) I' (0 + k9) (0 + n9) := by
    rw [Nat.zero_add, Nat.zero_add]
    exact Or.inr ⟨vZ, J', hz, rfl, rfl⟩
  refine VE.i2l (pc' := 8) d_Law_rowsOf_7 rfl ?_
  refine VE.last (pc' := 9) d_Law_rowsOf_8 rfl (by first | exact hb' | exact hb | exact hK) (by omega) (by omega) ?_
  refine VE.goto (pc' := 15) d_Law_rowsOf_9 rfl ?_
  refine VE.iconst (pc' := 16) d_Law_rowsOf_15 rfl (by decide) ?_
  exact VE.iret d_Law_rowsOf_16 rfl rfl (by show 0 + k9 ≤ X; omega) (by show 0 + n9 ≤ Y; omega) (finZ)
theorem lw_scan (hK : K 1000 = some (10, 0)) (hb : K 50 = some (102, 1)) (sp : SpE m_F_scan true ({ frames := 14, cells := X, slots := Y, locals := 600 } : Room) Q0 K P J I [vR (some 1000), vI p1]) (hx : LwX [eIOO, eISE] X Y Q0) (hr : LwR X Y Q0) : SpE m_Law_scan true ({ frames := 15, cells := X, slots := Y, locals := 660 } : Room) (LwE [(eIOO, 1), (eISE, 2)] Q0) K P J I [vR (some 1000), vI p1, vR (some 50)] := by
  refine SpE.ofV (by decide) (Or.inl rfl) rfl ?_
  refine VE.aload_n (pc' := 1) d_Law_scan_0 rfl rfl ?_
  refine VE.iconst (pc' := 2) d_Law_scan_1 rfl (by decide) ?_
  refine VE.aload_n (pc' := 3) d_Law_scan_2 rfl rfl ?_
  refine VE.iload_n (pc' := 4) d_Law_scan_3 rfl rfl ?_
  refine VE.callVXE (ci := 10) (T := T10) (N := 11) (pc' := 7) d_Law_scan_4 rfl sp rfl mv_F_scan.1 mv_F_scan.2.1 rfl mv_F_scan.2.2.1 mv_F_scan.2.2.2 lk_Law_79 rfl hK rfl rfl rfl (by show 0 + X ≤ X; omega) (by show 0 + Y ≤ Y; omega) (fun k9 n9 E K' P' J' I' hz => ?_) (fun k9 n9 r K' P' J' I' hz => ?_)
  case refine_1 =>
    obtain ⟨he, b1, b2⟩ := hx _ _ _ _ _ _ _ hz
    refine ⟨Or.inr ?_, b1, b2⟩
    simp only [List.mem_cons, List.not_mem_nil, or_false] at he
    rcases he with rfl | rfl
    · have c9Z : Catch m_Law_scan 4 eIOO 12 := ⟨[], [⟨0, 9, 15, 15⟩], ⟨0, 9, 12, 21⟩, eIOO, rfl, (fun z hz => (nomatch hz)), rfl, by decide, lk_Law_21, by decide, rfl⟩
      refine ⟨12, 13, 14, 3, 1, c9Z, ?_, Or.inr ⟨3, rfl, d_Law_scan_12, rfl⟩, by decide, d_Law_scan_13, by decide, d_Law_scan_14, rfl, rfl⟩
      rw [Nat.zero_add, Nat.zero_add]
      exact Or.inl ⟨(eIOO, 1), by simp, hz, rfl⟩
    · have c9Z : Catch m_Law_scan 4 eISE 15 := ⟨[⟨0, 9, 12, 21⟩], [], ⟨0, 9, 15, 15⟩, eISE, rfl, fun z hz => by
        simp only [List.mem_cons, List.not_mem_nil, or_false] at hz
        rcases hz with rfl
        · exact Or.inr ⟨by decide, _, lk_Law_21, by decide⟩, rfl, by decide, lk_Law_15, by decide, rfl⟩
      refine ⟨15, 16, 17, 3, 2, c9Z, ?_, Or.inr ⟨3, rfl, d_Law_scan_15, rfl⟩, by decide, d_Law_scan_16, by decide, d_Law_scan_17, rfl, rfl⟩
      rw [Nat.zero_add, Nat.zero_add]
      exact Or.inl ⟨(eISE, 2), by simp, hz, rfl⟩
  obtain ⟨⟨vZ, rfl⟩, hb', b1, b2⟩ := hr _ _ _ _ _ _ _ hz
  have finZ : LwE [(eIOO, 1), (eISE, 2)] Q0 (.inl (some (vI 0))) K' P' (up2 J' 50 0 vZ) I' (0 + k9) (0 + n9) := by
    rw [Nat.zero_add, Nat.zero_add]
    exact Or.inr ⟨vZ, J', hz, rfl, rfl⟩
  refine VE.i2l (pc' := 8) d_Law_scan_7 rfl ?_
  refine VE.last (pc' := 9) d_Law_scan_8 rfl (by first | exact hb' | exact hb | exact hK) (by omega) (by omega) ?_
  refine VE.goto (pc' := 18) d_Law_scan_9 rfl ?_
  refine VE.iconst (pc' := 19) d_Law_scan_18 rfl (by decide) ?_
  exact VE.iret d_Law_scan_19 rfl rfl (by show 0 + k9 ≤ X; omega) (by show 0 + n9 ≤ Y; omega) (finZ)
theorem lw_filter (hK : K 1000 = some (10, 0)) (hb : K 50 = some (102, 1)) (sp : SpE m_F_filter true ({ frames := 14, cells := X, slots := Y, locals := 600 } : Room) Q0 K P J I [vR (some 1000), vI p1, vI p2, vI p3, vI p4]) (hx : LwX [eISE, eIOO, eIAE] X Y Q0) (hr : LwR X Y Q0) : SpE m_Law_filter true ({ frames := 15, cells := X, slots := Y, locals := 660 } : Room) (LwE [(eISE, 1), (eIOO, 2), (eIAE, 3)] Q0) K P J I [vR (some 1000), vI p1, vI p2, vI p3, vI p4, vR (some 50)] := by
  refine SpE.ofV (by decide) (Or.inl rfl) rfl ?_
  refine VE.aload (pc' := 2) d_Law_filter_0 rfl rfl ?_
  refine VE.iconst (pc' := 3) d_Law_filter_2 rfl (by decide) ?_
  refine VE.aload_n (pc' := 4) d_Law_filter_3 rfl rfl ?_
  refine VE.iload_n (pc' := 5) d_Law_filter_4 rfl rfl ?_
  refine VE.iload_n (pc' := 6) d_Law_filter_5 rfl rfl ?_
  refine VE.iload_n (pc' := 7) d_Law_filter_6 rfl rfl ?_
  refine VE.iload (pc' := 9) d_Law_filter_7 rfl rfl ?_
  refine VE.callVXE (ci := 10) (T := T10) (N := 11) (pc' := 12) d_Law_filter_9 rfl sp rfl mv_F_filter.1 mv_F_filter.2.1 rfl mv_F_filter.2.2.1 mv_F_filter.2.2.2 lk_Law_82 rfl hK rfl rfl rfl (by show 0 + X ≤ X; omega) (by show 0 + Y ≤ Y; omega) (fun k9 n9 E K' P' J' I' hz => ?_) (fun k9 n9 r K' P' J' I' hz => ?_)
  case refine_1 =>
    obtain ⟨he, b1, b2⟩ := hx _ _ _ _ _ _ _ hz
    refine ⟨Or.inr ?_, b1, b2⟩
    simp only [List.mem_cons, List.not_mem_nil, or_false] at he
    rcases he with rfl | rfl | rfl
    · have c9Z : Catch m_Law_filter 9 eISE 17 := ⟨[], [⟨0, 14, 21, 21⟩, ⟨0, 14, 25, 13⟩], ⟨0, 14, 17, 15⟩, eISE, rfl, (fun z hz => (nomatch hz)), rfl, by decide, lk_Law_15, by decide, rfl⟩
      refine ⟨17, 19, 20, 6, 1, c9Z, ?_, Or.inl ⟨d_Law_filter_17, rfl⟩, by decide, d_Law_filter_19, by decide, d_Law_filter_20, rfl, rfl⟩
      rw [Nat.zero_add, Nat.zero_add]
      exact Or.inl ⟨(eISE, 1), by simp, hz, rfl⟩
    · have c9Z : Catch m_Law_filter 9 eIOO 21 := ⟨[⟨0, 14, 17, 15⟩], [⟨0, 14, 25, 13⟩], ⟨0, 14, 21, 21⟩, eIOO, rfl, fun z hz => by
        simp only [List.mem_cons, List.not_mem_nil, or_false] at hz
        rcases hz with rfl
        · exact Or.inr ⟨by decide, _, lk_Law_15, by decide⟩, rfl, by decide, lk_Law_21, by decide, rfl⟩
      refine ⟨21, 23, 24, 6, 2, c9Z, ?_, Or.inl ⟨d_Law_filter_21, rfl⟩, by decide, d_Law_filter_23, by decide, d_Law_filter_24, rfl, rfl⟩
      rw [Nat.zero_add, Nat.zero_add]
      exact Or.inl ⟨(eIOO, 2), by simp, hz, rfl⟩
    · have c9Z : Catch m_Law_filter 9 eIAE 25 := ⟨[⟨0, 14, 17, 15⟩, ⟨0, 14, 21, 21⟩], [], ⟨0, 14, 25, 13⟩, eIAE, rfl, fun z hz => by
        simp only [List.mem_cons, List.not_mem_nil, or_false] at hz
        rcases hz with rfl | rfl
        · exact Or.inr ⟨by decide, _, lk_Law_15, by decide⟩
        · exact Or.inr ⟨by decide, _, lk_Law_21, by decide⟩, rfl, by decide, lk_Law_13, by decide, rfl⟩
      refine ⟨25, 27, 28, 6, 3, c9Z, ?_, Or.inl ⟨d_Law_filter_25, rfl⟩, by decide, d_Law_filter_27, by decide, d_Law_filter_28, rfl, rfl⟩
      rw [Nat.zero_add, Nat.zero_add]
      exact Or.inl ⟨(eIAE, 3), by simp, hz, rfl⟩
  obtain ⟨⟨vZ, rfl⟩, hb', b1, b2⟩ := hr _ _ _ _ _ _ _ hz
  have finZ : LwE [(eISE, 1), (eIOO, 2), (eIAE, 3)] Q0 (.inl (some (vI 0))) K' P' (up2 J' 50 0 vZ) I' (0 + k9) (0 + n9) := by
    rw [Nat.zero_add, Nat.zero_add]
    exact Or.inr ⟨vZ, J', hz, rfl, rfl⟩
  refine VE.i2l (pc' := 13) d_Law_filter_12 rfl ?_
  refine VE.last (pc' := 14) d_Law_filter_13 rfl (by first | exact hb' | exact hb | exact hK) (by omega) (by omega) ?_
  refine VE.goto (pc' := 29) d_Law_filter_14 rfl ?_
  refine VE.iconst (pc' := 30) d_Law_filter_29 rfl (by decide) ?_
  exact VE.iret d_Law_filter_30 rfl rfl (by show 0 + k9 ≤ X; omega) (by show 0 + n9 ≤ Y; omega) (finZ)
theorem lw_filterColumns (hK : K 1000 = some (10, 0)) (hb : K 50 = some (102, 1)) (sp : SpE m_F_filterColumns true ({ frames := 14, cells := X, slots := Y, locals := 600 } : Room) Q0 K P J I [vR (some 1000), vI p1, vI p2, vI p3, vI p4]) (hx : LwX [eISE, eIOO, eIAE] X Y Q0) (hr : LwR X Y Q0) : SpE m_Law_filterColumns true ({ frames := 15, cells := X, slots := Y, locals := 660 } : Room) (LwE [(eISE, 1), (eIOO, 2), (eIAE, 3)] Q0) K P J I [vR (some 1000), vI p1, vI p2, vI p3, vI p4, vR (some 50)] := by
  refine SpE.ofV (by decide) (Or.inl rfl) rfl ?_
  refine VE.aload (pc' := 2) d_Law_filterColumns_0 rfl rfl ?_
  refine VE.iconst (pc' := 3) d_Law_filterColumns_2 rfl (by decide) ?_
  refine VE.aload_n (pc' := 4) d_Law_filterColumns_3 rfl rfl ?_
  refine VE.iload_n (pc' := 5) d_Law_filterColumns_4 rfl rfl ?_
  refine VE.iload_n (pc' := 6) d_Law_filterColumns_5 rfl rfl ?_
  refine VE.iload_n (pc' := 7) d_Law_filterColumns_6 rfl rfl ?_
  refine VE.iload (pc' := 9) d_Law_filterColumns_7 rfl rfl ?_
  refine VE.callVXE (ci := 10) (T := T10) (N := 11) (pc' := 12) d_Law_filterColumns_9 rfl sp rfl mv_F_filterColumns.1 mv_F_filterColumns.2.1 rfl mv_F_filterColumns.2.2.1 mv_F_filterColumns.2.2.2 lk_Law_86 rfl hK rfl rfl rfl (by show 0 + X ≤ X; omega) (by show 0 + Y ≤ Y; omega) (fun k9 n9 E K' P' J' I' hz => ?_) (fun k9 n9 r K' P' J' I' hz => ?_)
  case refine_1 =>
    obtain ⟨he, b1, b2⟩ := hx _ _ _ _ _ _ _ hz
    refine ⟨Or.inr ?_, b1, b2⟩
    simp only [List.mem_cons, List.not_mem_nil, or_false] at he
    rcases he with rfl | rfl | rfl
    · have c9Z : Catch m_Law_filterColumns 9 eISE 17 := ⟨[], [⟨0, 14, 21, 21⟩, ⟨0, 14, 25, 13⟩], ⟨0, 14, 17, 15⟩, eISE, rfl, (fun z hz => (nomatch hz)), rfl, by decide, lk_Law_15, by decide, rfl⟩
      refine ⟨17, 19, 20, 6, 1, c9Z, ?_, Or.inl ⟨d_Law_filterColumns_17, rfl⟩, by decide, d_Law_filterColumns_19, by decide, d_Law_filterColumns_20, rfl, rfl⟩
      rw [Nat.zero_add, Nat.zero_add]
      exact Or.inl ⟨(eISE, 1), by simp, hz, rfl⟩
    · have c9Z : Catch m_Law_filterColumns 9 eIOO 21 := ⟨[⟨0, 14, 17, 15⟩], [⟨0, 14, 25, 13⟩], ⟨0, 14, 21, 21⟩, eIOO, rfl, fun z hz => by
        simp only [List.mem_cons, List.not_mem_nil, or_false] at hz
        rcases hz with rfl
        · exact Or.inr ⟨by decide, _, lk_Law_15, by decide⟩, rfl, by decide, lk_Law_21, by decide, rfl⟩
      refine ⟨21, 23, 24, 6, 2, c9Z, ?_, Or.inl ⟨d_Law_filterColumns_21, rfl⟩, by decide, d_Law_filterColumns_23, by decide, d_Law_filterColumns_24, rfl, rfl⟩
      rw [Nat.zero_add, Nat.zero_add]
      exact Or.inl ⟨(eIOO, 2), by simp, hz, rfl⟩
    · have c9Z : Catch m_Law_filterColumns 9 eIAE 25 := ⟨[⟨0, 14, 17, 15⟩, ⟨0, 14, 21, 21⟩], [], ⟨0, 14, 25, 13⟩, eIAE, rfl, fun z hz => by
        simp only [List.mem_cons, List.not_mem_nil, or_false] at hz
        rcases hz with rfl | rfl
        · exact Or.inr ⟨by decide, _, lk_Law_15, by decide⟩
        · exact Or.inr ⟨by decide, _, lk_Law_21, by decide⟩, rfl, by decide, lk_Law_13, by decide, rfl⟩
      refine ⟨25, 27, 28, 6, 3, c9Z, ?_, Or.inl ⟨d_Law_filterColumns_25, rfl⟩, by decide, d_Law_filterColumns_27, by decide, d_Law_filterColumns_28, rfl, rfl⟩
      rw [Nat.zero_add, Nat.zero_add]
      exact Or.inl ⟨(eIAE, 3), by simp, hz, rfl⟩
  obtain ⟨⟨vZ, rfl⟩, hb', b1, b2⟩ := hr _ _ _ _ _ _ _ hz
  have finZ : LwE [(eISE, 1), (eIOO, 2), (eIAE, 3)] Q0 (.inl (some (vI 0))) K' P' (up2 J' 50 0 vZ) I' (0 + k9) (0 + n9) := by
    rw [Nat.zero_add, Nat.zero_add]
    exact Or.inr ⟨vZ, J', hz, rfl, rfl⟩
  refine VE.i2l (pc' := 13) d_Law_filterColumns_12 rfl ?_
  refine VE.last (pc' := 14) d_Law_filterColumns_13 rfl (by first | exact hb' | exact hb | exact hK) (by omega) (by omega) ?_
  refine VE.goto (pc' := 29) d_Law_filterColumns_14 rfl ?_
  refine VE.iconst (pc' := 30) d_Law_filterColumns_29 rfl (by decide) ?_
  exact VE.iret d_Law_filterColumns_30 rfl rfl (by show 0 + k9 ≤ X; omega) (by show 0 + n9 ≤ Y; omega) (finZ)
theorem lw_ratio (hK : K 1000 = some (10, 0)) (hb : K 50 = some (102, 1)) (sp : SpE m_F_ratio true ({ frames := 14, cells := X, slots := Y, locals := 600 } : Room) Q0 K P J I [vR (some 1000), vI p1, vI p2, vI p3]) (hx : LwX [eISE, eIOO, eIAE] X Y Q0) (hr : LwR X Y Q0) : SpE m_Law_ratio true ({ frames := 15, cells := X, slots := Y, locals := 660 } : Room) (LwE [(eISE, 1), (eIOO, 2), (eIAE, 3)] Q0) K P J I [vR (some 1000), vI p1, vI p2, vI p3, vR (some 50)] := by
  refine SpE.ofV (by decide) (Or.inl rfl) rfl ?_
  refine VE.aload (pc' := 2) d_Law_ratio_0 rfl rfl ?_
  refine VE.iconst (pc' := 3) d_Law_ratio_2 rfl (by decide) ?_
  refine VE.aload_n (pc' := 4) d_Law_ratio_3 rfl rfl ?_
  refine VE.iload_n (pc' := 5) d_Law_ratio_4 rfl rfl ?_
  refine VE.iload_n (pc' := 6) d_Law_ratio_5 rfl rfl ?_
  refine VE.iload_n (pc' := 7) d_Law_ratio_6 rfl rfl ?_
  refine VE.callVXE (ci := 10) (T := T10) (N := 11) (pc' := 10) d_Law_ratio_7 rfl sp rfl mv_F_ratio.1 mv_F_ratio.2.1 rfl mv_F_ratio.2.2.1 mv_F_ratio.2.2.2 lk_Law_89 rfl hK rfl rfl rfl (by show 0 + X ≤ X; omega) (by show 0 + Y ≤ Y; omega) (fun k9 n9 E K' P' J' I' hz => ?_) (fun k9 n9 r K' P' J' I' hz => ?_)
  case refine_1 =>
    obtain ⟨he, b1, b2⟩ := hx _ _ _ _ _ _ _ hz
    refine ⟨Or.inr ?_, b1, b2⟩
    simp only [List.mem_cons, List.not_mem_nil, or_false] at he
    rcases he with rfl | rfl | rfl
    · have c9Z : Catch m_Law_ratio 7 eISE 15 := ⟨[], [⟨0, 12, 19, 21⟩, ⟨0, 12, 23, 13⟩], ⟨0, 12, 15, 15⟩, eISE, rfl, (fun z hz => (nomatch hz)), rfl, by decide, lk_Law_15, by decide, rfl⟩
      refine ⟨15, 17, 18, 5, 1, c9Z, ?_, Or.inl ⟨d_Law_ratio_15, rfl⟩, by decide, d_Law_ratio_17, by decide, d_Law_ratio_18, rfl, rfl⟩
      rw [Nat.zero_add, Nat.zero_add]
      exact Or.inl ⟨(eISE, 1), by simp, hz, rfl⟩
    · have c9Z : Catch m_Law_ratio 7 eIOO 19 := ⟨[⟨0, 12, 15, 15⟩], [⟨0, 12, 23, 13⟩], ⟨0, 12, 19, 21⟩, eIOO, rfl, fun z hz => by
        simp only [List.mem_cons, List.not_mem_nil, or_false] at hz
        rcases hz with rfl
        · exact Or.inr ⟨by decide, _, lk_Law_15, by decide⟩, rfl, by decide, lk_Law_21, by decide, rfl⟩
      refine ⟨19, 21, 22, 5, 2, c9Z, ?_, Or.inl ⟨d_Law_ratio_19, rfl⟩, by decide, d_Law_ratio_21, by decide, d_Law_ratio_22, rfl, rfl⟩
      rw [Nat.zero_add, Nat.zero_add]
      exact Or.inl ⟨(eIOO, 2), by simp, hz, rfl⟩
    · have c9Z : Catch m_Law_ratio 7 eIAE 23 := ⟨[⟨0, 12, 15, 15⟩, ⟨0, 12, 19, 21⟩], [], ⟨0, 12, 23, 13⟩, eIAE, rfl, fun z hz => by
        simp only [List.mem_cons, List.not_mem_nil, or_false] at hz
        rcases hz with rfl | rfl
        · exact Or.inr ⟨by decide, _, lk_Law_15, by decide⟩
        · exact Or.inr ⟨by decide, _, lk_Law_21, by decide⟩, rfl, by decide, lk_Law_13, by decide, rfl⟩
      refine ⟨23, 25, 26, 5, 3, c9Z, ?_, Or.inl ⟨d_Law_ratio_23, rfl⟩, by decide, d_Law_ratio_25, by decide, d_Law_ratio_26, rfl, rfl⟩
      rw [Nat.zero_add, Nat.zero_add]
      exact Or.inl ⟨(eIAE, 3), by simp, hz, rfl⟩
  obtain ⟨⟨vZ, rfl⟩, hb', b1, b2⟩ := hr _ _ _ _ _ _ _ hz
  have finZ : LwE [(eISE, 1), (eIOO, 2), (eIAE, 3)] Q0 (.inl (some (vI 0))) K' P' (up2 J' 50 0 vZ) I' (0 + k9) (0 + n9) := by
    rw [Nat.zero_add, Nat.zero_add]
    exact Or.inr ⟨vZ, J', hz, rfl, rfl⟩
  refine VE.i2l (pc' := 11) d_Law_ratio_10 rfl ?_
  refine VE.last (pc' := 12) d_Law_ratio_11 rfl (by first | exact hb' | exact hb | exact hK) (by omega) (by omega) ?_
  refine VE.goto (pc' := 27) d_Law_ratio_12 rfl ?_
  refine VE.iconst (pc' := 28) d_Law_ratio_27 rfl (by decide) ?_
  exact VE.iret d_Law_ratio_28 rfl rfl (by show 0 + k9 ≤ X; omega) (by show 0 + n9 ≤ Y; omega) (finZ)
theorem lw_join (hK : K 1000 = some (10, 0)) (hb : K 50 = some (102, 1)) (sp : SpE m_F_join true ({ frames := 14, cells := X, slots := Y, locals := 600 } : Room) Q0 K P J I [vR (some 1000), vI p1, vI p2, vI p3]) (hx : LwX [eISE, eIOO, eIAE] X Y Q0) (hr : LwR X Y Q0) : SpE m_Law_join true ({ frames := 15, cells := X, slots := Y, locals := 660 } : Room) (LwE [(eISE, 1), (eIOO, 2), (eIAE, 3)] Q0) K P J I [vR (some 1000), vI p1, vI p2, vI p3, vR (some 50)] := by
  refine SpE.ofV (by decide) (Or.inl rfl) rfl ?_
  refine VE.aload (pc' := 2) d_Law_join_0 rfl rfl ?_
  refine VE.iconst (pc' := 3) d_Law_join_2 rfl (by decide) ?_
  refine VE.aload_n (pc' := 4) d_Law_join_3 rfl rfl ?_
  refine VE.iload_n (pc' := 5) d_Law_join_4 rfl rfl ?_
  refine VE.iload_n (pc' := 6) d_Law_join_5 rfl rfl ?_
  refine VE.iload_n (pc' := 7) d_Law_join_6 rfl rfl ?_
  refine VE.callVXE (ci := 10) (T := T10) (N := 11) (pc' := 10) d_Law_join_7 rfl sp rfl mv_F_join.1 mv_F_join.2.1 rfl mv_F_join.2.2.1 mv_F_join.2.2.2 lk_Law_92 rfl hK rfl rfl rfl (by show 0 + X ≤ X; omega) (by show 0 + Y ≤ Y; omega) (fun k9 n9 E K' P' J' I' hz => ?_) (fun k9 n9 r K' P' J' I' hz => ?_)
  case refine_1 =>
    obtain ⟨he, b1, b2⟩ := hx _ _ _ _ _ _ _ hz
    refine ⟨Or.inr ?_, b1, b2⟩
    simp only [List.mem_cons, List.not_mem_nil, or_false] at he
    rcases he with rfl | rfl | rfl
    · have c9Z : Catch m_Law_join 7 eISE 15 := ⟨[], [⟨0, 12, 19, 21⟩, ⟨0, 12, 23, 13⟩], ⟨0, 12, 15, 15⟩, eISE, rfl, (fun z hz => (nomatch hz)), rfl, by decide, lk_Law_15, by decide, rfl⟩
      refine ⟨15, 17, 18, 5, 1, c9Z, ?_, Or.inl ⟨d_Law_join_15, rfl⟩, by decide, d_Law_join_17, by decide, d_Law_join_18, rfl, rfl⟩
      rw [Nat.zero_add, Nat.zero_add]
      exact Or.inl ⟨(eISE, 1), by simp, hz, rfl⟩
    · have c9Z : Catch m_Law_join 7 eIOO 19 := ⟨[⟨0, 12, 15, 15⟩], [⟨0, 12, 23, 13⟩], ⟨0, 12, 19, 21⟩, eIOO, rfl, fun z hz => by
        simp only [List.mem_cons, List.not_mem_nil, or_false] at hz
        rcases hz with rfl
        · exact Or.inr ⟨by decide, _, lk_Law_15, by decide⟩, rfl, by decide, lk_Law_21, by decide, rfl⟩
      refine ⟨19, 21, 22, 5, 2, c9Z, ?_, Or.inl ⟨d_Law_join_19, rfl⟩, by decide, d_Law_join_21, by decide, d_Law_join_22, rfl, rfl⟩
      rw [Nat.zero_add, Nat.zero_add]
      exact Or.inl ⟨(eIOO, 2), by simp, hz, rfl⟩
    · have c9Z : Catch m_Law_join 7 eIAE 23 := ⟨[⟨0, 12, 15, 15⟩, ⟨0, 12, 19, 21⟩], [], ⟨0, 12, 23, 13⟩, eIAE, rfl, fun z hz => by
        simp only [List.mem_cons, List.not_mem_nil, or_false] at hz
        rcases hz with rfl | rfl
        · exact Or.inr ⟨by decide, _, lk_Law_15, by decide⟩
        · exact Or.inr ⟨by decide, _, lk_Law_21, by decide⟩, rfl, by decide, lk_Law_13, by decide, rfl⟩
      refine ⟨23, 25, 26, 5, 3, c9Z, ?_, Or.inl ⟨d_Law_join_23, rfl⟩, by decide, d_Law_join_25, by decide, d_Law_join_26, rfl, rfl⟩
      rw [Nat.zero_add, Nat.zero_add]
      exact Or.inl ⟨(eIAE, 3), by simp, hz, rfl⟩
  obtain ⟨⟨vZ, rfl⟩, hb', b1, b2⟩ := hr _ _ _ _ _ _ _ hz
  have finZ : LwE [(eISE, 1), (eIOO, 2), (eIAE, 3)] Q0 (.inl (some (vI 0))) K' P' (up2 J' 50 0 vZ) I' (0 + k9) (0 + n9) := by
    rw [Nat.zero_add, Nat.zero_add]
    exact Or.inr ⟨vZ, J', hz, rfl, rfl⟩
  refine VE.i2l (pc' := 11) d_Law_join_10 rfl ?_
  refine VE.last (pc' := 12) d_Law_join_11 rfl (by first | exact hb' | exact hb | exact hK) (by omega) (by omega) ?_
  refine VE.goto (pc' := 27) d_Law_join_12 rfl ?_
  refine VE.iconst (pc' := 28) d_Law_join_27 rfl (by decide) ?_
  exact VE.iret d_Law_join_28 rfl rfl (by show 0 + k9 ≤ X; omega) (by show 0 + n9 ≤ Y; omega) (finZ)
theorem lw_keep (hK : K 1000 = some (10, 0)) (hb : K 50 = some (102, 1)) (sp : SpE m_F_keep true ({ frames := 14, cells := X, slots := Y, locals := 600 } : Room) Q0 K P J I [vR (some 1000), vI p1]) (hx : LwX [eISE, eIAE] X Y Q0) (hr : LwR X Y Q0) : SpE m_Law_keep true ({ frames := 15, cells := X, slots := Y, locals := 660 } : Room) (LwE [(eISE, 1), (eIAE, 2)] Q0) K P J I [vR (some 1000), vI p1, vR (some 50)] := by
  refine SpE.ofV (by decide) (Or.inl rfl) rfl ?_
  refine VE.aload_n (pc' := 1) d_Law_keep_0 rfl rfl ?_
  refine VE.iconst (pc' := 2) d_Law_keep_1 rfl (by decide) ?_
  refine VE.aload_n (pc' := 3) d_Law_keep_2 rfl rfl ?_
  refine VE.iload_n (pc' := 4) d_Law_keep_3 rfl rfl ?_
  refine VE.callVXE (ci := 10) (T := T10) (N := 11) (pc' := 7) d_Law_keep_4 rfl sp rfl mv_F_keep.1 mv_F_keep.2.1 rfl mv_F_keep.2.2.1 mv_F_keep.2.2.2 lk_Law_95 rfl hK rfl rfl rfl (by show 0 + X ≤ X; omega) (by show 0 + Y ≤ Y; omega) (fun k9 n9 E K' P' J' I' hz => ?_) (fun k9 n9 r K' P' J' I' hz => ?_)
  case refine_1 =>
    obtain ⟨he, b1, b2⟩ := hx _ _ _ _ _ _ _ hz
    refine ⟨Or.inr ?_, b1, b2⟩
    simp only [List.mem_cons, List.not_mem_nil, or_false] at he
    rcases he with rfl | rfl
    · have c9Z : Catch m_Law_keep 4 eISE 12 := ⟨[], [⟨0, 9, 15, 13⟩], ⟨0, 9, 12, 15⟩, eISE, rfl, (fun z hz => (nomatch hz)), rfl, by decide, lk_Law_15, by decide, rfl⟩
      refine ⟨12, 13, 14, 3, 1, c9Z, ?_, Or.inr ⟨3, rfl, d_Law_keep_12, rfl⟩, by decide, d_Law_keep_13, by decide, d_Law_keep_14, rfl, rfl⟩
      rw [Nat.zero_add, Nat.zero_add]
      exact Or.inl ⟨(eISE, 1), by simp, hz, rfl⟩
    · have c9Z : Catch m_Law_keep 4 eIAE 15 := ⟨[⟨0, 9, 12, 15⟩], [], ⟨0, 9, 15, 13⟩, eIAE, rfl, fun z hz => by
        simp only [List.mem_cons, List.not_mem_nil, or_false] at hz
        rcases hz with rfl
        · exact Or.inr ⟨by decide, _, lk_Law_15, by decide⟩, rfl, by decide, lk_Law_13, by decide, rfl⟩
      refine ⟨15, 16, 17, 3, 2, c9Z, ?_, Or.inr ⟨3, rfl, d_Law_keep_15, rfl⟩, by decide, d_Law_keep_16, by decide, d_Law_keep_17, rfl, rfl⟩
      rw [Nat.zero_add, Nat.zero_add]
      exact Or.inl ⟨(eIAE, 2), by simp, hz, rfl⟩
  obtain ⟨⟨vZ, rfl⟩, hb', b1, b2⟩ := hr _ _ _ _ _ _ _ hz
  have finZ : LwE [(eISE, 1), (eIAE, 2)] Q0 (.inl (some (vI 0))) K' P' (up2 J' 50 0 vZ) I' (0 + k9) (0 + n9) := by
    rw [Nat.zero_add, Nat.zero_add]
    exact Or.inr ⟨vZ, J', hz, rfl, rfl⟩
  refine VE.i2l (pc' := 8) d_Law_keep_7 rfl ?_
  refine VE.last (pc' := 9) d_Law_keep_8 rfl (by first | exact hb' | exact hb | exact hK) (by omega) (by omega) ?_
  refine VE.goto (pc' := 18) d_Law_keep_9 rfl ?_
  refine VE.iconst (pc' := 19) d_Law_keep_18 rfl (by decide) ?_
  exact VE.iret d_Law_keep_19 rfl rfl (by show 0 + k9 ≤ X; omega) (by show 0 + n9 ≤ Y; omega) (finZ)
theorem lw_group (hK : K 1000 = some (10, 0)) (hb : K 50 = some (102, 1)) (sp : SpE m_F_group true ({ frames := 14, cells := X, slots := Y, locals := 600 } : Room) Q0 K P J I [vR (some 1000), vI p1, vI p2, vI p3]) (hx : LwX [eISE, eIOO, eIAE] X Y Q0) (hr : LwR X Y Q0) : SpE m_Law_group true ({ frames := 15, cells := X, slots := Y, locals := 660 } : Room) (LwE [(eISE, 1), (eIOO, 2), (eIAE, 3)] Q0) K P J I [vR (some 1000), vI p1, vI p2, vI p3, vR (some 50)] := by
  refine SpE.ofV (by decide) (Or.inl rfl) rfl ?_
  refine VE.aload (pc' := 2) d_Law_group_0 rfl rfl ?_
  refine VE.iconst (pc' := 3) d_Law_group_2 rfl (by decide) ?_
  refine VE.aload_n (pc' := 4) d_Law_group_3 rfl rfl ?_
  refine VE.iload_n (pc' := 5) d_Law_group_4 rfl rfl ?_
  refine VE.iload_n (pc' := 6) d_Law_group_5 rfl rfl ?_
  refine VE.iload_n (pc' := 7) d_Law_group_6 rfl rfl ?_
  refine VE.callVXE (ci := 10) (T := T10) (N := 11) (pc' := 10) d_Law_group_7 rfl sp rfl mv_F_group.1 mv_F_group.2.1 rfl mv_F_group.2.2.1 mv_F_group.2.2.2 lk_Law_98 rfl hK rfl rfl rfl (by show 0 + X ≤ X; omega) (by show 0 + Y ≤ Y; omega) (fun k9 n9 E K' P' J' I' hz => ?_) (fun k9 n9 r K' P' J' I' hz => ?_)
  case refine_1 =>
    obtain ⟨he, b1, b2⟩ := hx _ _ _ _ _ _ _ hz
    refine ⟨Or.inr ?_, b1, b2⟩
    simp only [List.mem_cons, List.not_mem_nil, or_false] at he
    rcases he with rfl | rfl | rfl
    · have c9Z : Catch m_Law_group 7 eISE 15 := ⟨[], [⟨0, 12, 19, 21⟩, ⟨0, 12, 23, 13⟩], ⟨0, 12, 15, 15⟩, eISE, rfl, (fun z hz => (nomatch hz)), rfl, by decide, lk_Law_15, by decide, rfl⟩
      refine ⟨15, 17, 18, 5, 1, c9Z, ?_, Or.inl ⟨d_Law_group_15, rfl⟩, by decide, d_Law_group_17, by decide, d_Law_group_18, rfl, rfl⟩
      rw [Nat.zero_add, Nat.zero_add]
      exact Or.inl ⟨(eISE, 1), by simp, hz, rfl⟩
    · have c9Z : Catch m_Law_group 7 eIOO 19 := ⟨[⟨0, 12, 15, 15⟩], [⟨0, 12, 23, 13⟩], ⟨0, 12, 19, 21⟩, eIOO, rfl, fun z hz => by
        simp only [List.mem_cons, List.not_mem_nil, or_false] at hz
        rcases hz with rfl
        · exact Or.inr ⟨by decide, _, lk_Law_15, by decide⟩, rfl, by decide, lk_Law_21, by decide, rfl⟩
      refine ⟨19, 21, 22, 5, 2, c9Z, ?_, Or.inl ⟨d_Law_group_19, rfl⟩, by decide, d_Law_group_21, by decide, d_Law_group_22, rfl, rfl⟩
      rw [Nat.zero_add, Nat.zero_add]
      exact Or.inl ⟨(eIOO, 2), by simp, hz, rfl⟩
    · have c9Z : Catch m_Law_group 7 eIAE 23 := ⟨[⟨0, 12, 15, 15⟩, ⟨0, 12, 19, 21⟩], [], ⟨0, 12, 23, 13⟩, eIAE, rfl, fun z hz => by
        simp only [List.mem_cons, List.not_mem_nil, or_false] at hz
        rcases hz with rfl | rfl
        · exact Or.inr ⟨by decide, _, lk_Law_15, by decide⟩
        · exact Or.inr ⟨by decide, _, lk_Law_21, by decide⟩, rfl, by decide, lk_Law_13, by decide, rfl⟩
      refine ⟨23, 25, 26, 5, 3, c9Z, ?_, Or.inl ⟨d_Law_group_23, rfl⟩, by decide, d_Law_group_25, by decide, d_Law_group_26, rfl, rfl⟩
      rw [Nat.zero_add, Nat.zero_add]
      exact Or.inl ⟨(eIAE, 3), by simp, hz, rfl⟩
  obtain ⟨⟨vZ, rfl⟩, hb', b1, b2⟩ := hr _ _ _ _ _ _ _ hz
  have finZ : LwE [(eISE, 1), (eIOO, 2), (eIAE, 3)] Q0 (.inl (some (vI 0))) K' P' (up2 J' 50 0 vZ) I' (0 + k9) (0 + n9) := by
    rw [Nat.zero_add, Nat.zero_add]
    exact Or.inr ⟨vZ, J', hz, rfl, rfl⟩
  refine VE.i2l (pc' := 11) d_Law_group_10 rfl ?_
  refine VE.last (pc' := 12) d_Law_group_11 rfl (by first | exact hb' | exact hb | exact hK) (by omega) (by omega) ?_
  refine VE.goto (pc' := 27) d_Law_group_12 rfl ?_
  refine VE.iconst (pc' := 28) d_Law_group_27 rfl (by decide) ?_
  exact VE.iret d_Law_group_28 rfl rfl (by show 0 + k9 ≤ X; omega) (by show 0 + n9 ≤ Y; omega) (finZ)
theorem lw_combine (hK : K 1000 = some (10, 0)) (hb : K 50 = some (102, 1)) (sp : SpE m_F_combine true ({ frames := 14, cells := X, slots := Y, locals := 600 } : Room) Q0 K P J I [vR (some 1000), vI p1]) (hx : LwX [eISE, eIAE] X Y Q0) (hr : LwR X Y Q0) : SpE m_Law_combine true ({ frames := 15, cells := X, slots := Y, locals := 660 } : Room) (LwE [(eISE, 1), (eIAE, 2)] Q0) K P J I [vR (some 1000), vI p1, vR (some 50)] := by
  refine SpE.ofV (by decide) (Or.inl rfl) rfl ?_
  refine VE.aload_n (pc' := 1) d_Law_combine_0 rfl rfl ?_
  refine VE.iconst (pc' := 2) d_Law_combine_1 rfl (by decide) ?_
  refine VE.aload_n (pc' := 3) d_Law_combine_2 rfl rfl ?_
  refine VE.iload_n (pc' := 4) d_Law_combine_3 rfl rfl ?_
  refine VE.callVXE (ci := 10) (T := T10) (N := 11) (pc' := 7) d_Law_combine_4 rfl sp rfl mv_F_combine.1 mv_F_combine.2.1 rfl mv_F_combine.2.2.1 mv_F_combine.2.2.2 lk_Law_101 rfl hK rfl rfl rfl (by show 0 + X ≤ X; omega) (by show 0 + Y ≤ Y; omega) (fun k9 n9 E K' P' J' I' hz => ?_) (fun k9 n9 r K' P' J' I' hz => ?_)
  case refine_1 =>
    obtain ⟨he, b1, b2⟩ := hx _ _ _ _ _ _ _ hz
    refine ⟨Or.inr ?_, b1, b2⟩
    simp only [List.mem_cons, List.not_mem_nil, or_false] at he
    rcases he with rfl | rfl
    · have c9Z : Catch m_Law_combine 4 eISE 12 := ⟨[], [⟨0, 9, 15, 13⟩], ⟨0, 9, 12, 15⟩, eISE, rfl, (fun z hz => (nomatch hz)), rfl, by decide, lk_Law_15, by decide, rfl⟩
      refine ⟨12, 13, 14, 3, 1, c9Z, ?_, Or.inr ⟨3, rfl, d_Law_combine_12, rfl⟩, by decide, d_Law_combine_13, by decide, d_Law_combine_14, rfl, rfl⟩
      rw [Nat.zero_add, Nat.zero_add]
      exact Or.inl ⟨(eISE, 1), by simp, hz, rfl⟩
    · have c9Z : Catch m_Law_combine 4 eIAE 15 := ⟨[⟨0, 9, 12, 15⟩], [], ⟨0, 9, 15, 13⟩, eIAE, rfl, fun z hz => by
        simp only [List.mem_cons, List.not_mem_nil, or_false] at hz
        rcases hz with rfl
        · exact Or.inr ⟨by decide, _, lk_Law_15, by decide⟩, rfl, by decide, lk_Law_13, by decide, rfl⟩
      refine ⟨15, 16, 17, 3, 2, c9Z, ?_, Or.inr ⟨3, rfl, d_Law_combine_15, rfl⟩, by decide, d_Law_combine_16, by decide, d_Law_combine_17, rfl, rfl⟩
      rw [Nat.zero_add, Nat.zero_add]
      exact Or.inl ⟨(eIAE, 2), by simp, hz, rfl⟩
  obtain ⟨⟨vZ, rfl⟩, hb', b1, b2⟩ := hr _ _ _ _ _ _ _ hz
  have finZ : LwE [(eISE, 1), (eIAE, 2)] Q0 (.inl (some (vI 0))) K' P' (up2 J' 50 0 vZ) I' (0 + k9) (0 + n9) := by
    rw [Nat.zero_add, Nat.zero_add]
    exact Or.inr ⟨vZ, J', hz, rfl, rfl⟩
  refine VE.i2l (pc' := 8) d_Law_combine_7 rfl ?_
  refine VE.last (pc' := 9) d_Law_combine_8 rfl (by first | exact hb' | exact hb | exact hK) (by omega) (by omega) ?_
  refine VE.goto (pc' := 18) d_Law_combine_9 rfl ?_
  refine VE.iconst (pc' := 19) d_Law_combine_18 rfl (by decide) ?_
  exact VE.iret d_Law_combine_19 rfl rfl (by show 0 + k9 ≤ X; omega) (by show 0 + n9 ≤ Y; omega) (finZ)
theorem lw_query (hK : K 1000 = some (10, 0)) (hb : K 50 = some (102, 1)) (sp : SpE m_F_query true ({ frames := 14, cells := X, slots := Y, locals := 600 } : Room) Q0 K P J I [vR (some 1000)]) (hx : LwX [eISE] X Y Q0) (hr : LwR X Y Q0) : SpE m_Law_query true ({ frames := 15, cells := X, slots := Y, locals := 660 } : Room) (LwE [(eISE, 1)] Q0) K P J I [vR (some 1000), vR (some 50)] := by
  refine SpE.ofV (by decide) (Or.inl rfl) rfl ?_
  refine VE.aload_n (pc' := 1) d_Law_query_0 rfl rfl ?_
  refine VE.iconst (pc' := 2) d_Law_query_1 rfl (by decide) ?_
  refine VE.aload_n (pc' := 3) d_Law_query_2 rfl rfl ?_
  refine VE.callVXE (ci := 10) (T := T10) (N := 11) (pc' := 6) d_Law_query_3 rfl sp rfl mv_F_query.1 mv_F_query.2.1 rfl mv_F_query.2.2.1 mv_F_query.2.2.2 lk_Law_104 rfl hK rfl rfl rfl (by show 0 + X ≤ X; omega) (by show 0 + Y ≤ Y; omega) (fun k9 n9 E K' P' J' I' hz => ?_) (fun k9 n9 r K' P' J' I' hz => ?_)
  case refine_1 =>
    obtain ⟨he, b1, b2⟩ := hx _ _ _ _ _ _ _ hz
    refine ⟨Or.inr ?_, b1, b2⟩
    simp only [List.mem_cons, List.not_mem_nil, or_false] at he
    rcases he with rfl
    · have c9Z : Catch m_Law_query 3 eISE 11 := ⟨[], [], ⟨0, 8, 11, 15⟩, eISE, rfl, (fun z hz => (nomatch hz)), rfl, by decide, lk_Law_15, by decide, rfl⟩
      refine ⟨11, 12, 13, 2, 1, c9Z, ?_, Or.inr ⟨2, rfl, d_Law_query_11, rfl⟩, by decide, d_Law_query_12, by decide, d_Law_query_13, rfl, rfl⟩
      rw [Nat.zero_add, Nat.zero_add]
      exact Or.inl ⟨(eISE, 1), by simp, hz, rfl⟩
  obtain ⟨⟨vZ, rfl⟩, hb', b1, b2⟩ := hr _ _ _ _ _ _ _ hz
  have finZ : LwE [(eISE, 1)] Q0 (.inl (some (vI 0))) K' P' (up2 J' 50 0 vZ) I' (0 + k9) (0 + n9) := by
    rw [Nat.zero_add, Nat.zero_add]
    exact Or.inr ⟨vZ, J', hz, rfl, rfl⟩
  refine VE.i2l (pc' := 7) d_Law_query_6 rfl ?_
  refine VE.last (pc' := 8) d_Law_query_7 rfl (by first | exact hb' | exact hb | exact hK) (by omega) (by omega) ?_
  refine VE.goto (pc' := 14) d_Law_query_8 rfl ?_
  refine VE.iconst (pc' := 15) d_Law_query_14 rfl (by decide) ?_
  exact VE.iret d_Law_query_15 rfl rfl (by show 0 + k9 ≤ X; omega) (by show 0 + n9 ≤ Y; omega) (finZ)
theorem lw_run (hK : K 1000 = some (10, 0)) (hb : K 50 = some (102, 1)) (sp : SpE m_F_run true ({ frames := 14, cells := X, slots := Y, locals := 600 } : Room) Q0 K P J I [vR (some 1000), vI p1, vI p2]) (hx : LwX [eIOO, eISE, eARE] X Y Q0) (hr : LwR X Y Q0) : SpE m_Law_run true ({ frames := 15, cells := X, slots := Y, locals := 660 } : Room) (LwE [(eIOO, 1), (eISE, 2), (eARE, 3)] Q0) K P J I [vR (some 1000), vI p1, vI p2, vR (some 50)] := by
  refine SpE.ofV (by decide) (Or.inl rfl) rfl ?_
  refine VE.aload_n (pc' := 1) d_Law_run_0 rfl rfl ?_
  refine VE.iconst (pc' := 2) d_Law_run_1 rfl (by decide) ?_
  refine VE.aload_n (pc' := 3) d_Law_run_2 rfl rfl ?_
  refine VE.iload_n (pc' := 4) d_Law_run_3 rfl rfl ?_
  refine VE.iload_n (pc' := 5) d_Law_run_4 rfl rfl ?_
  refine VE.callVXE (ci := 10) (T := T10) (N := 11) (pc' := 8) d_Law_run_5 rfl sp rfl mv_F_run.1 mv_F_run.2.1 rfl mv_F_run.2.2.1 mv_F_run.2.2.2 lk_Law_108 rfl hK rfl rfl rfl (by show 0 + X ≤ X; omega) (by show 0 + Y ≤ Y; omega) (fun k9 n9 E K' P' J' I' hz => ?_) (fun k9 n9 r K' P' J' I' hz => ?_)
  case refine_1 =>
    obtain ⟨he, b1, b2⟩ := hx _ _ _ _ _ _ _ hz
    refine ⟨Or.inr ?_, b1, b2⟩
    simp only [List.mem_cons, List.not_mem_nil, or_false] at he
    rcases he with rfl | rfl | rfl
    · have c9Z : Catch m_Law_run 5 eIOO 13 := ⟨[], [⟨0, 10, 17, 15⟩, ⟨0, 10, 21, 111⟩], ⟨0, 10, 13, 21⟩, eIOO, rfl, (fun z hz => (nomatch hz)), rfl, by decide, lk_Law_21, by decide, rfl⟩
      refine ⟨13, 15, 16, 4, 1, c9Z, ?_, Or.inl ⟨d_Law_run_13, rfl⟩, by decide, d_Law_run_15, by decide, d_Law_run_16, rfl, rfl⟩
      rw [Nat.zero_add, Nat.zero_add]
      exact Or.inl ⟨(eIOO, 1), by simp, hz, rfl⟩
    · have c9Z : Catch m_Law_run 5 eISE 17 := ⟨[⟨0, 10, 13, 21⟩], [⟨0, 10, 21, 111⟩], ⟨0, 10, 17, 15⟩, eISE, rfl, fun z hz => by
        simp only [List.mem_cons, List.not_mem_nil, or_false] at hz
        rcases hz with rfl
        · exact Or.inr ⟨by decide, _, lk_Law_21, by decide⟩, rfl, by decide, lk_Law_15, by decide, rfl⟩
      refine ⟨17, 19, 20, 4, 2, c9Z, ?_, Or.inl ⟨d_Law_run_17, rfl⟩, by decide, d_Law_run_19, by decide, d_Law_run_20, rfl, rfl⟩
      rw [Nat.zero_add, Nat.zero_add]
      exact Or.inl ⟨(eISE, 2), by simp, hz, rfl⟩
    · have c9Z : Catch m_Law_run 5 eARE 21 := ⟨[⟨0, 10, 13, 21⟩, ⟨0, 10, 17, 15⟩], [], ⟨0, 10, 21, 111⟩, eARE, rfl, fun z hz => by
        simp only [List.mem_cons, List.not_mem_nil, or_false] at hz
        rcases hz with rfl | rfl
        · exact Or.inr ⟨by decide, _, lk_Law_21, by decide⟩
        · exact Or.inr ⟨by decide, _, lk_Law_15, by decide⟩, rfl, by decide, lk_Law_111, by decide, rfl⟩
      refine ⟨21, 23, 24, 4, 3, c9Z, ?_, Or.inl ⟨d_Law_run_21, rfl⟩, by decide, d_Law_run_23, by decide, d_Law_run_24, rfl, rfl⟩
      rw [Nat.zero_add, Nat.zero_add]
      exact Or.inl ⟨(eARE, 3), by simp, hz, rfl⟩
  obtain ⟨⟨vZ, rfl⟩, hb', b1, b2⟩ := hr _ _ _ _ _ _ _ hz
  have finZ : LwE [(eIOO, 1), (eISE, 2), (eARE, 3)] Q0 (.inl (some (vI 0))) K' P' (up2 J' 50 0 vZ) I' (0 + k9) (0 + n9) := by
    rw [Nat.zero_add, Nat.zero_add]
    exact Or.inr ⟨vZ, J', hz, rfl, rfl⟩
  refine VE.i2l (pc' := 9) d_Law_run_8 rfl ?_
  refine VE.last (pc' := 10) d_Law_run_9 rfl (by first | exact hb' | exact hb | exact hK) (by omega) (by omega) ?_
  refine VE.goto (pc' := 25) d_Law_run_10 rfl ?_
  refine VE.iconst (pc' := 26) d_Law_run_25 rfl (by decide) ?_
  exact VE.iret d_Law_run_26 rfl rfl (by show 0 + k9 ≤ X; omega) (by show 0 + n9 ≤ Y; omega) (finZ)
theorem lw_at (hK : K 1000 = some (10, 0)) (hb : K 50 = some (102, 1)) (sp : SpE m_F_at true ({ frames := 14, cells := X, slots := Y, locals := 600 } : Room) Q0 K P J I [vR (some 1000), vI p1, vI p2]) (hx : LwX [eIOO] X Y Q0) (hr : LwR X Y Q0) : SpE m_Law_at true ({ frames := 15, cells := X, slots := Y, locals := 660 } : Room) (LwE [(eIOO, 1)] Q0) K P J I [vR (some 1000), vI p1, vI p2, vR (some 50)] := by
  refine SpE.ofV (by decide) (Or.inl rfl) rfl ?_
  refine VE.aload_n (pc' := 1) d_Law_at_0 rfl rfl ?_
  refine VE.iconst (pc' := 2) d_Law_at_1 rfl (by decide) ?_
  refine VE.aload_n (pc' := 3) d_Law_at_2 rfl rfl ?_
  refine VE.iload_n (pc' := 4) d_Law_at_3 rfl rfl ?_
  refine VE.iload_n (pc' := 5) d_Law_at_4 rfl rfl ?_
  refine VE.callVXE (ci := 10) (T := T10) (N := 11) (pc' := 8) d_Law_at_5 rfl sp rfl mv_F_at.1 mv_F_at.2.1 rfl mv_F_at.2.2.1 mv_F_at.2.2.2 lk_Law_113 rfl hK rfl rfl rfl (by show 0 + X ≤ X; omega) (by show 0 + Y ≤ Y; omega) (fun k9 n9 E K' P' J' I' hz => ?_) (fun k9 n9 r K' P' J' I' hz => ?_)
  case refine_1 =>
    obtain ⟨he, b1, b2⟩ := hx _ _ _ _ _ _ _ hz
    refine ⟨Or.inr ?_, b1, b2⟩
    simp only [List.mem_cons, List.not_mem_nil, or_false] at he
    rcases he with rfl
    · have c9Z : Catch m_Law_at 5 eIOO 13 := ⟨[], [], ⟨0, 10, 13, 21⟩, eIOO, rfl, (fun z hz => (nomatch hz)), rfl, by decide, lk_Law_21, by decide, rfl⟩
      refine ⟨13, 15, 16, 4, 1, c9Z, ?_, Or.inl ⟨d_Law_at_13, rfl⟩, by decide, d_Law_at_15, by decide, d_Law_at_16, rfl, rfl⟩
      rw [Nat.zero_add, Nat.zero_add]
      exact Or.inl ⟨(eIOO, 1), by simp, hz, rfl⟩
  obtain ⟨⟨vZ, rfl⟩, hb', b1, b2⟩ := hr _ _ _ _ _ _ _ hz
  have finZ : LwE [(eIOO, 1)] Q0 (.inl (some (vI 0))) K' P' (up2 J' 50 0 vZ) I' (0 + k9) (0 + n9) := by
    rw [Nat.zero_add, Nat.zero_add]
    exact Or.inr ⟨vZ, J', hz, rfl, rfl⟩
  refine VE.i2l (pc' := 9) d_Law_at_8 rfl ?_
  refine VE.last (pc' := 10) d_Law_at_9 rfl (by first | exact hb' | exact hb | exact hK) (by omega) (by omega) ?_
  refine VE.goto (pc' := 17) d_Law_at_10 rfl ?_
  refine VE.iconst (pc' := 18) d_Law_at_17 rfl (by decide) ?_
  exact VE.iret d_Law_at_18 rfl rfl (by show 0 + k9 ≤ X; omega) (by show 0 + n9 ≤ Y; omega) (finZ)
theorem lw_atByLoops (hK : K 1000 = some (10, 0)) (hb : K 50 = some (102, 1)) (sp : SpE m_F_atByLoops true ({ frames := 14, cells := X, slots := Y, locals := 600 } : Room) Q0 K P J I [vR (some 1000), vI p1, vI p2, vI p3, vI p4]) (hx : LwX [eIOO, eISE, eARE] X Y Q0) (hr : LwR X Y Q0) : SpE m_Law_atByLoops true ({ frames := 15, cells := X, slots := Y, locals := 660 } : Room) (LwE [(eIOO, 1), (eISE, 2), (eARE, 3)] Q0) K P J I [vR (some 1000), vI p1, vI p2, vI p3, vI p4, vR (some 50)] := by
  refine SpE.ofV (by decide) (Or.inl rfl) rfl ?_
  refine VE.aload (pc' := 2) d_Law_atByLoops_0 rfl rfl ?_
  refine VE.iconst (pc' := 3) d_Law_atByLoops_2 rfl (by decide) ?_
  refine VE.aload_n (pc' := 4) d_Law_atByLoops_3 rfl rfl ?_
  refine VE.iload_n (pc' := 5) d_Law_atByLoops_4 rfl rfl ?_
  refine VE.iload_n (pc' := 6) d_Law_atByLoops_5 rfl rfl ?_
  refine VE.iload_n (pc' := 7) d_Law_atByLoops_6 rfl rfl ?_
  refine VE.iload (pc' := 9) d_Law_atByLoops_7 rfl rfl ?_
  refine VE.callVXE (ci := 10) (T := T10) (N := 11) (pc' := 12) d_Law_atByLoops_9 rfl sp rfl mv_F_atByLoops.1 mv_F_atByLoops.2.1 rfl mv_F_atByLoops.2.2.1 mv_F_atByLoops.2.2.2 lk_Law_116 rfl hK rfl rfl rfl (by show 0 + X ≤ X; omega) (by show 0 + Y ≤ Y; omega) (fun k9 n9 E K' P' J' I' hz => ?_) (fun k9 n9 r K' P' J' I' hz => ?_)
  case refine_1 =>
    obtain ⟨he, b1, b2⟩ := hx _ _ _ _ _ _ _ hz
    refine ⟨Or.inr ?_, b1, b2⟩
    simp only [List.mem_cons, List.not_mem_nil, or_false] at he
    rcases he with rfl | rfl | rfl
    · have c9Z : Catch m_Law_atByLoops 9 eIOO 17 := ⟨[], [⟨0, 14, 21, 15⟩, ⟨0, 14, 25, 111⟩], ⟨0, 14, 17, 21⟩, eIOO, rfl, (fun z hz => (nomatch hz)), rfl, by decide, lk_Law_21, by decide, rfl⟩
      refine ⟨17, 19, 20, 6, 1, c9Z, ?_, Or.inl ⟨d_Law_atByLoops_17, rfl⟩, by decide, d_Law_atByLoops_19, by decide, d_Law_atByLoops_20, rfl, rfl⟩
      rw [Nat.zero_add, Nat.zero_add]
      exact Or.inl ⟨(eIOO, 1), by simp, hz, rfl⟩
    · have c9Z : Catch m_Law_atByLoops 9 eISE 21 := ⟨[⟨0, 14, 17, 21⟩], [⟨0, 14, 25, 111⟩], ⟨0, 14, 21, 15⟩, eISE, rfl, fun z hz => by
        simp only [List.mem_cons, List.not_mem_nil, or_false] at hz
        rcases hz with rfl
        · exact Or.inr ⟨by decide, _, lk_Law_21, by decide⟩, rfl, by decide, lk_Law_15, by decide, rfl⟩
      refine ⟨21, 23, 24, 6, 2, c9Z, ?_, Or.inl ⟨d_Law_atByLoops_21, rfl⟩, by decide, d_Law_atByLoops_23, by decide, d_Law_atByLoops_24, rfl, rfl⟩
      rw [Nat.zero_add, Nat.zero_add]
      exact Or.inl ⟨(eISE, 2), by simp, hz, rfl⟩
    · have c9Z : Catch m_Law_atByLoops 9 eARE 25 := ⟨[⟨0, 14, 17, 21⟩, ⟨0, 14, 21, 15⟩], [], ⟨0, 14, 25, 111⟩, eARE, rfl, fun z hz => by
        simp only [List.mem_cons, List.not_mem_nil, or_false] at hz
        rcases hz with rfl | rfl
        · exact Or.inr ⟨by decide, _, lk_Law_21, by decide⟩
        · exact Or.inr ⟨by decide, _, lk_Law_15, by decide⟩, rfl, by decide, lk_Law_111, by decide, rfl⟩
      refine ⟨25, 27, 28, 6, 3, c9Z, ?_, Or.inl ⟨d_Law_atByLoops_25, rfl⟩, by decide, d_Law_atByLoops_27, by decide, d_Law_atByLoops_28, rfl, rfl⟩
      rw [Nat.zero_add, Nat.zero_add]
      exact Or.inl ⟨(eARE, 3), by simp, hz, rfl⟩
  obtain ⟨⟨vZ, rfl⟩, hb', b1, b2⟩ := hr _ _ _ _ _ _ _ hz
  have finZ : LwE [(eIOO, 1), (eISE, 2), (eARE, 3)] Q0 (.inl (some (vI 0))) K' P' (up2 J' 50 0 vZ) I' (0 + k9) (0 + n9) := by
    rw [Nat.zero_add, Nat.zero_add]
    exact Or.inr ⟨vZ, J', hz, rfl, rfl⟩
  refine VE.i2l (pc' := 13) d_Law_atByLoops_12 rfl ?_
  refine VE.last (pc' := 14) d_Law_atByLoops_13 rfl (by first | exact hb' | exact hb | exact hK) (by omega) (by omega) ?_
  refine VE.goto (pc' := 29) d_Law_atByLoops_14 rfl ?_
  refine VE.iconst (pc' := 30) d_Law_atByLoops_29 rfl (by decide) ?_
  exact VE.iret d_Law_atByLoops_30 rfl rfl (by show 0 + k9 ≤ X; omega) (by show 0 + n9 ≤ Y; omega) (finZ)
theorem lw_prepare (hK : K 1000 = some (10, 0)) (hb : K 50 = some (102, 1)) (sp : SpE m_F_prepare true ({ frames := 14, cells := X, slots := Y, locals := 600 } : Room) Q0 K P J I [vR (some 1000), vI p1]) (hx : LwX [eIOO] X Y Q0) (hr : LwR X Y Q0) : SpE m_Law_prepare true ({ frames := 15, cells := X, slots := Y, locals := 660 } : Room) (LwE [(eIOO, 1)] Q0) K P J I [vR (some 1000), vI p1, vR (some 50)] := by
  refine SpE.ofV (by decide) (Or.inl rfl) rfl ?_
  refine VE.aload_n (pc' := 1) d_Law_prepare_0 rfl rfl ?_
  refine VE.iconst (pc' := 2) d_Law_prepare_1 rfl (by decide) ?_
  refine VE.aload_n (pc' := 3) d_Law_prepare_2 rfl rfl ?_
  refine VE.iload_n (pc' := 4) d_Law_prepare_3 rfl rfl ?_
  refine VE.callVXE (ci := 10) (T := T10) (N := 11) (pc' := 7) d_Law_prepare_4 rfl sp rfl mv_F_prepare.1 mv_F_prepare.2.1 rfl mv_F_prepare.2.2.1 mv_F_prepare.2.2.2 lk_Law_119 rfl hK rfl rfl rfl (by show 0 + X ≤ X; omega) (by show 0 + Y ≤ Y; omega) (fun k9 n9 E K' P' J' I' hz => ?_) (fun k9 n9 r K' P' J' I' hz => ?_)
  case refine_1 =>
    obtain ⟨he, b1, b2⟩ := hx _ _ _ _ _ _ _ hz
    refine ⟨Or.inr ?_, b1, b2⟩
    simp only [List.mem_cons, List.not_mem_nil, or_false] at he
    rcases he with rfl
    · have c9Z : Catch m_Law_prepare 4 eIOO 12 := ⟨[], [], ⟨0, 9, 12, 21⟩, eIOO, rfl, (fun z hz => (nomatch hz)), rfl, by decide, lk_Law_21, by decide, rfl⟩
      refine ⟨12, 13, 14, 3, 1, c9Z, ?_, Or.inr ⟨3, rfl, d_Law_prepare_12, rfl⟩, by decide, d_Law_prepare_13, by decide, d_Law_prepare_14, rfl, rfl⟩
      rw [Nat.zero_add, Nat.zero_add]
      exact Or.inl ⟨(eIOO, 1), by simp, hz, rfl⟩
  obtain ⟨⟨vZ, rfl⟩, hb', b1, b2⟩ := hr _ _ _ _ _ _ _ hz
  have finZ : LwE [(eIOO, 1)] Q0 (.inl (some (vI 0))) K' P' (up2 J' 50 0 vZ) I' (0 + k9) (0 + n9) := by
    rw [Nat.zero_add, Nat.zero_add]
    exact Or.inr ⟨vZ, J', hz, rfl, rfl⟩
  refine VE.i2l (pc' := 8) d_Law_prepare_7 rfl ?_
  refine VE.last (pc' := 9) d_Law_prepare_8 rfl (by first | exact hb' | exact hb | exact hK) (by omega) (by omega) ?_
  refine VE.goto (pc' := 15) d_Law_prepare_9 rfl ?_
  refine VE.iconst (pc' := 16) d_Law_prepare_15 rfl (by decide) ?_
  exact VE.iret d_Law_prepare_16 rfl rfl (by show 0 + k9 ≤ X; omega) (by show 0 + n9 ≤ Y; omega) (finZ)
theorem lw_planAt (hK : K 1000 = some (10, 0)) (hb : K 50 = some (102, 1)) (sp : SpE m_F_planAt true ({ frames := 14, cells := X, slots := Y, locals := 600 } : Room) Q0 K P J I [vR (some 1000), vI p1, vI p2]) (hx : LwX [eIOO, eISE] X Y Q0) (hr : LwR X Y Q0) : SpE m_Law_planAt true ({ frames := 15, cells := X, slots := Y, locals := 660 } : Room) (LwE [(eIOO, 1), (eISE, 2)] Q0) K P J I [vR (some 1000), vI p1, vI p2, vR (some 50)] := by
  refine SpE.ofV (by decide) (Or.inl rfl) rfl ?_
  refine VE.aload_n (pc' := 1) d_Law_planAt_0 rfl rfl ?_
  refine VE.iconst (pc' := 2) d_Law_planAt_1 rfl (by decide) ?_
  refine VE.aload_n (pc' := 3) d_Law_planAt_2 rfl rfl ?_
  refine VE.iload_n (pc' := 4) d_Law_planAt_3 rfl rfl ?_
  refine VE.iload_n (pc' := 5) d_Law_planAt_4 rfl rfl ?_
  refine VE.callVXE (ci := 10) (T := T10) (N := 11) (pc' := 8) d_Law_planAt_5 rfl sp rfl mv_F_planAt.1 mv_F_planAt.2.1 rfl mv_F_planAt.2.2.1 mv_F_planAt.2.2.2 lk_Law_122 rfl hK rfl rfl rfl (by show 0 + X ≤ X; omega) (by show 0 + Y ≤ Y; omega) (fun k9 n9 E K' P' J' I' hz => ?_) (fun k9 n9 r K' P' J' I' hz => ?_)
  case refine_1 =>
    obtain ⟨he, b1, b2⟩ := hx _ _ _ _ _ _ _ hz
    refine ⟨Or.inr ?_, b1, b2⟩
    simp only [List.mem_cons, List.not_mem_nil, or_false] at he
    rcases he with rfl | rfl
    · have c9Z : Catch m_Law_planAt 5 eIOO 13 := ⟨[], [⟨0, 10, 17, 15⟩], ⟨0, 10, 13, 21⟩, eIOO, rfl, (fun z hz => (nomatch hz)), rfl, by decide, lk_Law_21, by decide, rfl⟩
      refine ⟨13, 15, 16, 4, 1, c9Z, ?_, Or.inl ⟨d_Law_planAt_13, rfl⟩, by decide, d_Law_planAt_15, by decide, d_Law_planAt_16, rfl, rfl⟩
      rw [Nat.zero_add, Nat.zero_add]
      exact Or.inl ⟨(eIOO, 1), by simp, hz, rfl⟩
    · have c9Z : Catch m_Law_planAt 5 eISE 17 := ⟨[⟨0, 10, 13, 21⟩], [], ⟨0, 10, 17, 15⟩, eISE, rfl, fun z hz => by
        simp only [List.mem_cons, List.not_mem_nil, or_false] at hz
        rcases hz with rfl
        · exact Or.inr ⟨by decide, _, lk_Law_21, by decide⟩, rfl, by decide, lk_Law_15, by decide, rfl⟩
      refine ⟨17, 19, 20, 4, 2, c9Z, ?_, Or.inl ⟨d_Law_planAt_17, rfl⟩, by decide, d_Law_planAt_19, by decide, d_Law_planAt_20, rfl, rfl⟩
      rw [Nat.zero_add, Nat.zero_add]
      exact Or.inl ⟨(eISE, 2), by simp, hz, rfl⟩
  obtain ⟨⟨vZ, rfl⟩, hb', b1, b2⟩ := hr _ _ _ _ _ _ _ hz
  have finZ : LwE [(eIOO, 1), (eISE, 2)] Q0 (.inl (some (vI 0))) K' P' (up2 J' 50 0 vZ) I' (0 + k9) (0 + n9) := by
    rw [Nat.zero_add, Nat.zero_add]
    exact Or.inr ⟨vZ, J', hz, rfl, rfl⟩
  refine VE.i2l (pc' := 9) d_Law_planAt_8 rfl ?_
  refine VE.last (pc' := 10) d_Law_planAt_9 rfl (by first | exact hb' | exact hb | exact hK) (by omega) (by omega) ?_
  refine VE.goto (pc' := 21) d_Law_planAt_10 rfl ?_
  refine VE.iconst (pc' := 22) d_Law_planAt_21 rfl (by decide) ?_
  exact VE.iret d_Law_planAt_22 rfl rfl (by show 0 + k9 ≤ X; omega) (by show 0 + n9 ≤ Y; omega) (finZ)
theorem lw_view (hK : K 1000 = some (10, 0)) (hb : K 50 = some (102, 1)) (sp : SpE m_F_view true ({ frames := 14, cells := X, slots := Y, locals := 600 } : Room) Q0 K P J I [vR (some 1000), vI p1]) (hx : LwX [eIOO, eISE] X Y Q0) (hr : LwR X Y Q0) : SpE m_Law_view true ({ frames := 15, cells := X, slots := Y, locals := 660 } : Room) (LwE [(eIOO, 1), (eISE, 2)] Q0) K P J I [vR (some 1000), vI p1, vR (some 50)] := by
  refine SpE.ofV (by decide) (Or.inl rfl) rfl ?_
  refine VE.aload_n (pc' := 1) d_Law_view_0 rfl rfl ?_
  refine VE.iconst (pc' := 2) d_Law_view_1 rfl (by decide) ?_
  refine VE.aload_n (pc' := 3) d_Law_view_2 rfl rfl ?_
  refine VE.iload_n (pc' := 4) d_Law_view_3 rfl rfl ?_
  refine VE.callVXE (ci := 10) (T := T10) (N := 11) (pc' := 7) d_Law_view_4 rfl sp rfl mv_F_view.1 mv_F_view.2.1 rfl mv_F_view.2.2.1 mv_F_view.2.2.2 lk_Law_125 rfl hK rfl rfl rfl (by show 0 + X ≤ X; omega) (by show 0 + Y ≤ Y; omega) (fun k9 n9 E K' P' J' I' hz => ?_) (fun k9 n9 r K' P' J' I' hz => ?_)
  case refine_1 =>
    obtain ⟨he, b1, b2⟩ := hx _ _ _ _ _ _ _ hz
    refine ⟨Or.inr ?_, b1, b2⟩
    simp only [List.mem_cons, List.not_mem_nil, or_false] at he
    rcases he with rfl | rfl
    · have c9Z : Catch m_Law_view 4 eIOO 12 := ⟨[], [⟨0, 9, 15, 15⟩], ⟨0, 9, 12, 21⟩, eIOO, rfl, (fun z hz => (nomatch hz)), rfl, by decide, lk_Law_21, by decide, rfl⟩
      refine ⟨12, 13, 14, 3, 1, c9Z, ?_, Or.inr ⟨3, rfl, d_Law_view_12, rfl⟩, by decide, d_Law_view_13, by decide, d_Law_view_14, rfl, rfl⟩
      rw [Nat.zero_add, Nat.zero_add]
      exact Or.inl ⟨(eIOO, 1), by simp, hz, rfl⟩
    · have c9Z : Catch m_Law_view 4 eISE 15 := ⟨[⟨0, 9, 12, 21⟩], [], ⟨0, 9, 15, 15⟩, eISE, rfl, fun z hz => by
        simp only [List.mem_cons, List.not_mem_nil, or_false] at hz
        rcases hz with rfl
        · exact Or.inr ⟨by decide, _, lk_Law_21, by decide⟩, rfl, by decide, lk_Law_15, by decide, rfl⟩
      refine ⟨15, 16, 17, 3, 2, c9Z, ?_, Or.inr ⟨3, rfl, d_Law_view_15, rfl⟩, by decide, d_Law_view_16, by decide, d_Law_view_17, rfl, rfl⟩
      rw [Nat.zero_add, Nat.zero_add]
      exact Or.inl ⟨(eISE, 2), by simp, hz, rfl⟩
  obtain ⟨⟨vZ, rfl⟩, hb', b1, b2⟩ := hr _ _ _ _ _ _ _ hz
  have finZ : LwE [(eIOO, 1), (eISE, 2)] Q0 (.inl (some (vI 0))) K' P' (up2 J' 50 0 vZ) I' (0 + k9) (0 + n9) := by
    rw [Nat.zero_add, Nat.zero_add]
    exact Or.inr ⟨vZ, J', hz, rfl, rfl⟩
  refine VE.i2l (pc' := 8) d_Law_view_7 rfl ?_
  refine VE.last (pc' := 9) d_Law_view_8 rfl (by first | exact hb' | exact hb | exact hK) (by omega) (by omega) ?_
  refine VE.goto (pc' := 18) d_Law_view_9 rfl ?_
  refine VE.iconst (pc' := 19) d_Law_view_18 rfl (by decide) ?_
  exact VE.iret d_Law_view_19 rfl rfl (by show 0 + k9 ≤ X; omega) (by show 0 + n9 ≤ Y; omega) (finZ)
theorem lw_viewRows (hK : K 1000 = some (10, 0)) (hb : K 50 = some (102, 1)) (sp : SpE m_F_viewRows true ({ frames := 14, cells := X, slots := Y, locals := 600 } : Room) Q0 K P J I [vR (some 1000), vI p1]) (hx : LwX [eIOO] X Y Q0) (hr : LwR X Y Q0) : SpE m_Law_viewRows true ({ frames := 15, cells := X, slots := Y, locals := 660 } : Room) (LwE [(eIOO, 1)] Q0) K P J I [vR (some 1000), vI p1, vR (some 50)] := by
  refine SpE.ofV (by decide) (Or.inl rfl) rfl ?_
  refine VE.aload_n (pc' := 1) d_Law_viewRows_0 rfl rfl ?_
  refine VE.iconst (pc' := 2) d_Law_viewRows_1 rfl (by decide) ?_
  refine VE.aload_n (pc' := 3) d_Law_viewRows_2 rfl rfl ?_
  refine VE.iload_n (pc' := 4) d_Law_viewRows_3 rfl rfl ?_
  refine VE.callVXE (ci := 10) (T := T10) (N := 11) (pc' := 7) d_Law_viewRows_4 rfl sp rfl mv_F_viewRows.1 mv_F_viewRows.2.1 rfl mv_F_viewRows.2.2.1 mv_F_viewRows.2.2.2 lk_Law_128 rfl hK rfl rfl rfl (by show 0 + X ≤ X; omega) (by show 0 + Y ≤ Y; omega) (fun k9 n9 E K' P' J' I' hz => ?_) (fun k9 n9 r K' P' J' I' hz => ?_)
  case refine_1 =>
    obtain ⟨he, b1, b2⟩ := hx _ _ _ _ _ _ _ hz
    refine ⟨Or.inr ?_, b1, b2⟩
    simp only [List.mem_cons, List.not_mem_nil, or_false] at he
    rcases he with rfl
    · have c9Z : Catch m_Law_viewRows 4 eIOO 12 := ⟨[], [], ⟨0, 9, 12, 21⟩, eIOO, rfl, (fun z hz => (nomatch hz)), rfl, by decide, lk_Law_21, by decide, rfl⟩
      refine ⟨12, 13, 14, 3, 1, c9Z, ?_, Or.inr ⟨3, rfl, d_Law_viewRows_12, rfl⟩, by decide, d_Law_viewRows_13, by decide, d_Law_viewRows_14, rfl, rfl⟩
      rw [Nat.zero_add, Nat.zero_add]
      exact Or.inl ⟨(eIOO, 1), by simp, hz, rfl⟩
  obtain ⟨⟨vZ, rfl⟩, hb', b1, b2⟩ := hr _ _ _ _ _ _ _ hz
  have finZ : LwE [(eIOO, 1)] Q0 (.inl (some (vI 0))) K' P' (up2 J' 50 0 vZ) I' (0 + k9) (0 + n9) := by
    rw [Nat.zero_add, Nat.zero_add]
    exact Or.inr ⟨vZ, J', hz, rfl, rfl⟩
  refine VE.i2l (pc' := 8) d_Law_viewRows_7 rfl ?_
  refine VE.last (pc' := 9) d_Law_viewRows_8 rfl (by first | exact hb' | exact hb | exact hK) (by omega) (by omega) ?_
  refine VE.goto (pc' := 15) d_Law_viewRows_9 rfl ?_
  refine VE.iconst (pc' := 16) d_Law_viewRows_15 rfl (by decide) ?_
  exact VE.iret d_Law_viewRows_16 rfl rfl (by show 0 + k9 ≤ X; omega) (by show 0 + n9 ≤ Y; omega) (finZ)
theorem lw_viewAt (hK : K 1000 = some (10, 0)) (hb : K 50 = some (102, 1)) (sp : SpE m_F_viewAt true ({ frames := 14, cells := X, slots := Y, locals := 600 } : Room) Q0 K P J I [vR (some 1000), vI p1, vI p2, vI p3]) (hx : LwX [eIOO] X Y Q0) (hr : LwR X Y Q0) : SpE m_Law_viewAt true ({ frames := 15, cells := X, slots := Y, locals := 660 } : Room) (LwE [(eIOO, 1)] Q0) K P J I [vR (some 1000), vI p1, vI p2, vI p3, vR (some 50)] := by
  refine SpE.ofV (by decide) (Or.inl rfl) rfl ?_
  refine VE.aload (pc' := 2) d_Law_viewAt_0 rfl rfl ?_
  refine VE.iconst (pc' := 3) d_Law_viewAt_2 rfl (by decide) ?_
  refine VE.aload_n (pc' := 4) d_Law_viewAt_3 rfl rfl ?_
  refine VE.iload_n (pc' := 5) d_Law_viewAt_4 rfl rfl ?_
  refine VE.iload_n (pc' := 6) d_Law_viewAt_5 rfl rfl ?_
  refine VE.iload_n (pc' := 7) d_Law_viewAt_6 rfl rfl ?_
  refine VE.callVXE (ci := 10) (T := T10) (N := 11) (pc' := 10) d_Law_viewAt_7 rfl sp rfl mv_F_viewAt.1 mv_F_viewAt.2.1 rfl mv_F_viewAt.2.2.1 mv_F_viewAt.2.2.2 lk_Law_131 rfl hK rfl rfl rfl (by show 0 + X ≤ X; omega) (by show 0 + Y ≤ Y; omega) (fun k9 n9 E K' P' J' I' hz => ?_) (fun k9 n9 r K' P' J' I' hz => ?_)
  case refine_1 =>
    obtain ⟨he, b1, b2⟩ := hx _ _ _ _ _ _ _ hz
    refine ⟨Or.inr ?_, b1, b2⟩
    simp only [List.mem_cons, List.not_mem_nil, or_false] at he
    rcases he with rfl
    · have c9Z : Catch m_Law_viewAt 7 eIOO 15 := ⟨[], [], ⟨0, 12, 15, 21⟩, eIOO, rfl, (fun z hz => (nomatch hz)), rfl, by decide, lk_Law_21, by decide, rfl⟩
      refine ⟨15, 17, 18, 5, 1, c9Z, ?_, Or.inl ⟨d_Law_viewAt_15, rfl⟩, by decide, d_Law_viewAt_17, by decide, d_Law_viewAt_18, rfl, rfl⟩
      rw [Nat.zero_add, Nat.zero_add]
      exact Or.inl ⟨(eIOO, 1), by simp, hz, rfl⟩
  obtain ⟨⟨vZ, rfl⟩, hb', b1, b2⟩ := hr _ _ _ _ _ _ _ hz
  have finZ : LwE [(eIOO, 1)] Q0 (.inl (some (vI 0))) K' P' (up2 J' 50 0 vZ) I' (0 + k9) (0 + n9) := by
    rw [Nat.zero_add, Nat.zero_add]
    exact Or.inr ⟨vZ, J', hz, rfl, rfl⟩
  refine VE.i2l (pc' := 11) d_Law_viewAt_10 rfl ?_
  refine VE.last (pc' := 12) d_Law_viewAt_11 rfl (by first | exact hb' | exact hb | exact hK) (by omega) (by omega) ?_
  refine VE.goto (pc' := 19) d_Law_viewAt_12 rfl ?_
  refine VE.iconst (pc' := 20) d_Law_viewAt_19 rfl (by decide) ?_
  exact VE.iret d_Law_viewAt_20 rfl rfl (by show 0 + k9 ≤ X; omega) (by show 0 + n9 ≤ Y; omega) (finZ)
theorem lw_viewAnew (hK : K 1000 = some (10, 0)) (hb : K 50 = some (102, 1)) (sp : SpE m_F_viewAnew true ({ frames := 14, cells := X, slots := Y, locals := 600 } : Room) Q0 K P J I [vR (some 1000), vI p1, vI p2, vI p3]) (hx : LwX [eIOO] X Y Q0) (hr : LwR X Y Q0) : SpE m_Law_viewAnew true ({ frames := 15, cells := X, slots := Y, locals := 660 } : Room) (LwE [(eIOO, 1)] Q0) K P J I [vR (some 1000), vI p1, vI p2, vI p3, vR (some 50)] := by
  refine SpE.ofV (by decide) (Or.inl rfl) rfl ?_
  refine VE.aload (pc' := 2) d_Law_viewAnew_0 rfl rfl ?_
  refine VE.iconst (pc' := 3) d_Law_viewAnew_2 rfl (by decide) ?_
  refine VE.aload_n (pc' := 4) d_Law_viewAnew_3 rfl rfl ?_
  refine VE.iload_n (pc' := 5) d_Law_viewAnew_4 rfl rfl ?_
  refine VE.iload_n (pc' := 6) d_Law_viewAnew_5 rfl rfl ?_
  refine VE.iload_n (pc' := 7) d_Law_viewAnew_6 rfl rfl ?_
  refine VE.callVXE (ci := 10) (T := T10) (N := 11) (pc' := 10) d_Law_viewAnew_7 rfl sp rfl mv_F_viewAnew.1 mv_F_viewAnew.2.1 rfl mv_F_viewAnew.2.2.1 mv_F_viewAnew.2.2.2 lk_Law_134 rfl hK rfl rfl rfl (by show 0 + X ≤ X; omega) (by show 0 + Y ≤ Y; omega) (fun k9 n9 E K' P' J' I' hz => ?_) (fun k9 n9 r K' P' J' I' hz => ?_)
  case refine_1 =>
    obtain ⟨he, b1, b2⟩ := hx _ _ _ _ _ _ _ hz
    refine ⟨Or.inr ?_, b1, b2⟩
    simp only [List.mem_cons, List.not_mem_nil, or_false] at he
    rcases he with rfl
    · have c9Z : Catch m_Law_viewAnew 7 eIOO 15 := ⟨[], [], ⟨0, 12, 15, 21⟩, eIOO, rfl, (fun z hz => (nomatch hz)), rfl, by decide, lk_Law_21, by decide, rfl⟩
      refine ⟨15, 17, 18, 5, 1, c9Z, ?_, Or.inl ⟨d_Law_viewAnew_15, rfl⟩, by decide, d_Law_viewAnew_17, by decide, d_Law_viewAnew_18, rfl, rfl⟩
      rw [Nat.zero_add, Nat.zero_add]
      exact Or.inl ⟨(eIOO, 1), by simp, hz, rfl⟩
  obtain ⟨⟨vZ, rfl⟩, hb', b1, b2⟩ := hr _ _ _ _ _ _ _ hz
  have finZ : LwE [(eIOO, 1)] Q0 (.inl (some (vI 0))) K' P' (up2 J' 50 0 vZ) I' (0 + k9) (0 + n9) := by
    rw [Nat.zero_add, Nat.zero_add]
    exact Or.inr ⟨vZ, J', hz, rfl, rfl⟩
  refine VE.i2l (pc' := 11) d_Law_viewAnew_10 rfl ?_
  refine VE.last (pc' := 12) d_Law_viewAnew_11 rfl (by first | exact hb' | exact hb | exact hK) (by omega) (by omega) ?_
  refine VE.goto (pc' := 19) d_Law_viewAnew_12 rfl ?_
  refine VE.iconst (pc' := 20) d_Law_viewAnew_19 rfl (by decide) ?_
  exact VE.iret d_Law_viewAnew_20 rfl rfl (by show 0 + k9 ≤ X; omega) (by show 0 + n9 ≤ Y; omega) (finZ)
theorem lw_crash (hK : K 1000 = some (10, 0)) (hb : K 50 = some (102, 1)) (sp : SpE m_F_crash true ({ frames := 14, cells := X, slots := Y, locals := 600 } : Room) Q0 K P J I [vR (some 1000), vI p1]) (hx : LwX [eIOO] X Y Q0) (hr : LwR X Y Q0) : SpE m_Law_crash true ({ frames := 15, cells := X, slots := Y, locals := 660 } : Room) (LwE [(eIOO, 1)] Q0) K P J I [vR (some 1000), vI p1, vR (some 50)] := by
  refine SpE.ofV (by decide) (Or.inl rfl) rfl ?_
  refine VE.aload_n (pc' := 1) d_Law_crash_0 rfl rfl ?_
  refine VE.iconst (pc' := 2) d_Law_crash_1 rfl (by decide) ?_
  refine VE.aload_n (pc' := 3) d_Law_crash_2 rfl rfl ?_
  refine VE.iload_n (pc' := 4) d_Law_crash_3 rfl rfl ?_
  refine VE.callVXE (ci := 10) (T := T10) (N := 11) (pc' := 7) d_Law_crash_4 rfl sp rfl mv_F_crash.1 mv_F_crash.2.1 rfl mv_F_crash.2.2.1 mv_F_crash.2.2.2 lk_Law_137 rfl hK rfl rfl rfl (by show 0 + X ≤ X; omega) (by show 0 + Y ≤ Y; omega) (fun k9 n9 E K' P' J' I' hz => ?_) (fun k9 n9 r K' P' J' I' hz => ?_)
  case refine_1 =>
    obtain ⟨he, b1, b2⟩ := hx _ _ _ _ _ _ _ hz
    refine ⟨Or.inr ?_, b1, b2⟩
    simp only [List.mem_cons, List.not_mem_nil, or_false] at he
    rcases he with rfl
    · have c9Z : Catch m_Law_crash 4 eIOO 12 := ⟨[], [], ⟨0, 9, 12, 21⟩, eIOO, rfl, (fun z hz => (nomatch hz)), rfl, by decide, lk_Law_21, by decide, rfl⟩
      refine ⟨12, 13, 14, 3, 1, c9Z, ?_, Or.inr ⟨3, rfl, d_Law_crash_12, rfl⟩, by decide, d_Law_crash_13, by decide, d_Law_crash_14, rfl, rfl⟩
      rw [Nat.zero_add, Nat.zero_add]
      exact Or.inl ⟨(eIOO, 1), by simp, hz, rfl⟩
  obtain ⟨⟨vZ, rfl⟩, hb', b1, b2⟩ := hr _ _ _ _ _ _ _ hz
  have finZ : LwE [(eIOO, 1)] Q0 (.inl (some (vI 0))) K' P' (up2 J' 50 0 vZ) I' (0 + k9) (0 + n9) := by
    rw [Nat.zero_add, Nat.zero_add]
    exact Or.inr ⟨vZ, J', hz, rfl, rfl⟩
  refine VE.i2l (pc' := 8) d_Law_crash_7 rfl ?_
  refine VE.last (pc' := 9) d_Law_crash_8 rfl (by first | exact hb' | exact hb | exact hK) (by omega) (by omega) ?_
  refine VE.goto (pc' := 15) d_Law_crash_9 rfl ?_
  refine VE.iconst (pc' := 16) d_Law_crash_15 rfl (by decide) ?_
  exact VE.iret d_Law_crash_16 rfl rfl (by show 0 + k9 ≤ X; omega) (by show 0 + n9 ≤ Y; omega) (finZ)
theorem lw_recordKind (hK : K 1000 = some (10, 0)) (hb : K 50 = some (102, 1)) (sp : SpE m_F_recordKind true ({ frames := 14, cells := X, slots := Y, locals := 600 } : Room) Q0 K P J I [vR (some 1000), vI p1]) (hx : LwX [eIOO] X Y Q0) (hr : LwR X Y Q0) : SpE m_Law_recordKind true ({ frames := 15, cells := X, slots := Y, locals := 660 } : Room) (LwE [(eIOO, 1)] Q0) K P J I [vR (some 1000), vI p1, vR (some 50)] := by
  refine SpE.ofV (by decide) (Or.inl rfl) rfl ?_
  refine VE.aload_n (pc' := 1) d_Law_recordKind_0 rfl rfl ?_
  refine VE.iconst (pc' := 2) d_Law_recordKind_1 rfl (by decide) ?_
  refine VE.aload_n (pc' := 3) d_Law_recordKind_2 rfl rfl ?_
  refine VE.iload_n (pc' := 4) d_Law_recordKind_3 rfl rfl ?_
  refine VE.callVXE (ci := 10) (T := T10) (N := 11) (pc' := 7) d_Law_recordKind_4 rfl sp rfl mv_F_recordKind.1 mv_F_recordKind.2.1 rfl mv_F_recordKind.2.2.1 mv_F_recordKind.2.2.2 lk_Law_140 rfl hK rfl rfl rfl (by show 0 + X ≤ X; omega) (by show 0 + Y ≤ Y; omega) (fun k9 n9 E K' P' J' I' hz => ?_) (fun k9 n9 r K' P' J' I' hz => ?_)
  case refine_1 =>
    obtain ⟨he, b1, b2⟩ := hx _ _ _ _ _ _ _ hz
    refine ⟨Or.inr ?_, b1, b2⟩
    simp only [List.mem_cons, List.not_mem_nil, or_false] at he
    rcases he with rfl
    · have c9Z : Catch m_Law_recordKind 4 eIOO 12 := ⟨[], [], ⟨0, 9, 12, 21⟩, eIOO, rfl, (fun z hz => (nomatch hz)), rfl, by decide, lk_Law_21, by decide, rfl⟩
      refine ⟨12, 13, 14, 3, 1, c9Z, ?_, Or.inr ⟨3, rfl, d_Law_recordKind_12, rfl⟩, by decide, d_Law_recordKind_13, by decide, d_Law_recordKind_14, rfl, rfl⟩
      rw [Nat.zero_add, Nat.zero_add]
      exact Or.inl ⟨(eIOO, 1), by simp, hz, rfl⟩
  obtain ⟨⟨vZ, rfl⟩, hb', b1, b2⟩ := hr _ _ _ _ _ _ _ hz
  have finZ : LwE [(eIOO, 1)] Q0 (.inl (some (vI 0))) K' P' (up2 J' 50 0 vZ) I' (0 + k9) (0 + n9) := by
    rw [Nat.zero_add, Nat.zero_add]
    exact Or.inr ⟨vZ, J', hz, rfl, rfl⟩
  refine VE.i2l (pc' := 8) d_Law_recordKind_7 rfl ?_
  refine VE.last (pc' := 9) d_Law_recordKind_8 rfl (by first | exact hb' | exact hb | exact hK) (by omega) (by omega) ?_
  refine VE.goto (pc' := 15) d_Law_recordKind_9 rfl ?_
  refine VE.iconst (pc' := 16) d_Law_recordKind_15 rfl (by decide) ?_
  exact VE.iret d_Law_recordKind_16 rfl rfl (by show 0 + k9 ≤ X; omega) (by show 0 + n9 ≤ Y; omega) (finZ)
theorem lw_recordOf (hK : K 1000 = some (10, 0)) (hb : K 50 = some (102, 1)) (sp : SpE m_F_recordOf true ({ frames := 14, cells := X, slots := Y, locals := 600 } : Room) Q0 K P J I [vR (some 1000), vI p1]) (hx : LwX [eIOO] X Y Q0) (hr : LwR X Y Q0) : SpE m_Law_recordOf true ({ frames := 15, cells := X, slots := Y, locals := 660 } : Room) (LwE [(eIOO, 1)] Q0) K P J I [vR (some 1000), vI p1, vR (some 50)] := by
  refine SpE.ofV (by decide) (Or.inl rfl) rfl ?_
  refine VE.aload_n (pc' := 1) d_Law_recordOf_0 rfl rfl ?_
  refine VE.iconst (pc' := 2) d_Law_recordOf_1 rfl (by decide) ?_
  refine VE.aload_n (pc' := 3) d_Law_recordOf_2 rfl rfl ?_
  refine VE.iload_n (pc' := 4) d_Law_recordOf_3 rfl rfl ?_
  refine VE.callVXE (ci := 10) (T := T10) (N := 11) (pc' := 7) d_Law_recordOf_4 rfl sp rfl mv_F_recordOf.1 mv_F_recordOf.2.1 rfl mv_F_recordOf.2.2.1 mv_F_recordOf.2.2.2 lk_Law_143 rfl hK rfl rfl rfl (by show 0 + X ≤ X; omega) (by show 0 + Y ≤ Y; omega) (fun k9 n9 E K' P' J' I' hz => ?_) (fun k9 n9 r K' P' J' I' hz => ?_)
  case refine_1 =>
    obtain ⟨he, b1, b2⟩ := hx _ _ _ _ _ _ _ hz
    refine ⟨Or.inr ?_, b1, b2⟩
    simp only [List.mem_cons, List.not_mem_nil, or_false] at he
    rcases he with rfl
    · have c9Z : Catch m_Law_recordOf 4 eIOO 12 := ⟨[], [], ⟨0, 9, 12, 21⟩, eIOO, rfl, (fun z hz => (nomatch hz)), rfl, by decide, lk_Law_21, by decide, rfl⟩
      refine ⟨12, 13, 14, 3, 1, c9Z, ?_, Or.inr ⟨3, rfl, d_Law_recordOf_12, rfl⟩, by decide, d_Law_recordOf_13, by decide, d_Law_recordOf_14, rfl, rfl⟩
      rw [Nat.zero_add, Nat.zero_add]
      exact Or.inl ⟨(eIOO, 1), by simp, hz, rfl⟩
  obtain ⟨⟨vZ, rfl⟩, hb', b1, b2⟩ := hr _ _ _ _ _ _ _ hz
  have finZ : LwE [(eIOO, 1)] Q0 (.inl (some (vI 0))) K' P' (up2 J' 50 0 vZ) I' (0 + k9) (0 + n9) := by
    rw [Nat.zero_add, Nat.zero_add]
    exact Or.inr ⟨vZ, J', hz, rfl, rfl⟩
  refine VE.i2l (pc' := 8) d_Law_recordOf_7 rfl ?_
  refine VE.last (pc' := 9) d_Law_recordOf_8 rfl (by first | exact hb' | exact hb | exact hK) (by omega) (by omega) ?_
  refine VE.goto (pc' := 15) d_Law_recordOf_9 rfl ?_
  refine VE.iconst (pc' := 16) d_Law_recordOf_15 rfl (by decide) ?_
  exact VE.iret d_Law_recordOf_16 rfl rfl (by show 0 + k9 ≤ X; omega) (by show 0 + n9 ≤ Y; omega) (finZ)
theorem lw_recordAt (hK : K 1000 = some (10, 0)) (hb : K 50 = some (102, 1)) (sp : SpE m_F_recordAt true ({ frames := 14, cells := X, slots := Y, locals := 600 } : Room) Q0 K P J I [vR (some 1000), vI p1, vI p2]) (hx : LwX [eIOO] X Y Q0) (hr : LwR X Y Q0) : SpE m_Law_recordAt true ({ frames := 15, cells := X, slots := Y, locals := 660 } : Room) (LwE [(eIOO, 1)] Q0) K P J I [vR (some 1000), vI p1, vI p2, vR (some 50)] := by
  refine SpE.ofV (by decide) (Or.inl rfl) rfl ?_
  refine VE.aload_n (pc' := 1) d_Law_recordAt_0 rfl rfl ?_
  refine VE.iconst (pc' := 2) d_Law_recordAt_1 rfl (by decide) ?_
  refine VE.aload_n (pc' := 3) d_Law_recordAt_2 rfl rfl ?_
  refine VE.iload_n (pc' := 4) d_Law_recordAt_3 rfl rfl ?_
  refine VE.iload_n (pc' := 5) d_Law_recordAt_4 rfl rfl ?_
  refine VE.callVXE (ci := 10) (T := T10) (N := 11) (pc' := 8) d_Law_recordAt_5 rfl sp rfl mv_F_recordAt.1 mv_F_recordAt.2.1 rfl mv_F_recordAt.2.2.1 mv_F_recordAt.2.2.2 lk_Law_146 rfl hK rfl rfl rfl (by show 0 + X ≤ X; omega) (by show 0 + Y ≤ Y; omega) (fun k9 n9 E K' P' J' I' hz => ?_) (fun k9 n9 r K' P' J' I' hz => ?_)
  case refine_1 =>
    obtain ⟨he, b1, b2⟩ := hx _ _ _ _ _ _ _ hz
    refine ⟨Or.inr ?_, b1, b2⟩
    simp only [List.mem_cons, List.not_mem_nil, or_false] at he
    rcases he with rfl
    · have c9Z : Catch m_Law_recordAt 5 eIOO 13 := ⟨[], [], ⟨0, 10, 13, 21⟩, eIOO, rfl, (fun z hz => (nomatch hz)), rfl, by decide, lk_Law_21, by decide, rfl⟩
      refine ⟨13, 15, 16, 4, 1, c9Z, ?_, Or.inl ⟨d_Law_recordAt_13, rfl⟩, by decide, d_Law_recordAt_15, by decide, d_Law_recordAt_16, rfl, rfl⟩
      rw [Nat.zero_add, Nat.zero_add]
      exact Or.inl ⟨(eIOO, 1), by simp, hz, rfl⟩
  obtain ⟨⟨vZ, rfl⟩, hb', b1, b2⟩ := hr _ _ _ _ _ _ _ hz
  have finZ : LwE [(eIOO, 1)] Q0 (.inl (some (vI 0))) K' P' (up2 J' 50 0 vZ) I' (0 + k9) (0 + n9) := by
    rw [Nat.zero_add, Nat.zero_add]
    exact Or.inr ⟨vZ, J', hz, rfl, rfl⟩
  refine VE.i2l (pc' := 9) d_Law_recordAt_8 rfl ?_
  refine VE.last (pc' := 10) d_Law_recordAt_9 rfl (by first | exact hb' | exact hb | exact hK) (by omega) (by omega) ?_
  refine VE.goto (pc' := 17) d_Law_recordAt_10 rfl ?_
  refine VE.iconst (pc' := 18) d_Law_recordAt_17 rfl (by decide) ?_
  exact VE.iret d_Law_recordAt_18 rfl rfl (by show 0 + k9 ≤ X; omega) (by show 0 + n9 ≤ Y; omega) (finZ)
end
