/-! what a call demands -/
section
variable {K : KT} {P : PT} {J I S : IT} {n N g lq : Nat} {lv mv : Nat → Nat} {v : Int}
theorem tISE : ThrOK "RowForge" 360 362 "java/lang/IllegalStateException" := ⟨by decide +kernel, by decide +kernel, by decide +kernel, by decide +kernel, by decide +kernel⟩
theorem tIAE : ThrOK "RowForge" 357 359 "java/lang/IllegalArgumentException" := ⟨by decide +kernel, by decide +kernel, by decide +kernel, by decide +kernel, by decide +kernel⟩
abbrev eIOO : String := "java/lang/IndexOutOfBoundsException"
abbrev eISE : String := "java/lang/IllegalStateException"
abbrev eIAE : String := "java/lang/IllegalArgumentException"
def rmD0 : Room := { frames := 6, cells := 0, slots := 0, locals := 100 }
def rmD1 : Room := { frames := 6, cells := 1, slots := 6, locals := 100 }
theorem sp_F_demandPlace1 (h : v ≠ 0) : Sp m_F_demandPlace true rmD0 (ex K P J I (.inl none)) K P J I [vI v] := by
  refine Sp.ofV (by decide) (Or.inl rfl) rfl ?_
  refine VW.iload_n (pc' := 1) d_F_demandPlace_0 rfl rfl ?_
  refine VW.if_ne (tgt := 12) (pc' := 4) d_F_demandPlace_1 rfl rfl (fun _ => ?_) (fun c => absurd c h)
  exact VW.vret d_F_demandPlace_12 rfl (Nat.zero_le _) (Nat.zero_le _) ex_rf
theorem sp_F_demandPlace0 : Sp m_F_demandPlace true rmD1 (ex K P J I (.inr eIOO)) K P J I [vI 0] := by
  refine Sp.ofV (by decide) (Or.inl rfl) rfl ?_
  refine VW.iload_n (pc' := 1) d_F_demandPlace_0 rfl rfl ?_
  refine VW.if_ne (tgt := 12) (pc' := 4) d_F_demandPlace_1 rfl rfl (fun c => absurd rfl c) (fun _ => ?_)
  exact VW.throw0 d_F_demandPlace_4 d_F_demandPlace_7 d_F_demandPlace_8 d_F_demandPlace_11 tIOO rfl (by decide) (by decide) (by decide) (by decide) ex_rf
theorem sp_F_demandState1 (h : v ≠ 0) : Sp m_F_demandState true rmD0 (ex K P J I (.inl none)) K P J I [vI v] := by
  refine Sp.ofV (by decide) (Or.inl rfl) rfl ?_
  refine VW.iload_n (pc' := 1) d_F_demandState_0 rfl rfl ?_
  refine VW.if_ne (tgt := 12) (pc' := 4) d_F_demandState_1 rfl rfl (fun _ => ?_) (fun c => absurd c h)
  exact VW.vret d_F_demandState_12 rfl (Nat.zero_le _) (Nat.zero_le _) ex_rf
theorem sp_F_demandState0 : Sp m_F_demandState true rmD1 (ex K P J I (.inr eISE)) K P J I [vI 0] := by
  refine Sp.ofV (by decide) (Or.inl rfl) rfl ?_
  refine VW.iload_n (pc' := 1) d_F_demandState_0 rfl rfl ?_
  refine VW.if_ne (tgt := 12) (pc' := 4) d_F_demandState_1 rfl rfl (fun c => absurd rfl c) (fun _ => ?_)
  exact VW.throw0 d_F_demandState_4 d_F_demandState_7 d_F_demandState_8 d_F_demandState_11 tISE rfl (by decide) (by decide) (by decide) (by decide) ex_rf
theorem sp_F_demandRange1 (h : v ≠ 0) : Sp m_F_demandRange true rmD0 (ex K P J I (.inl none)) K P J I [vI v] := by
  refine Sp.ofV (by decide) (Or.inl rfl) rfl ?_
  refine VW.iload_n (pc' := 1) d_F_demandRange_0 rfl rfl ?_
  refine VW.if_ne (tgt := 12) (pc' := 4) d_F_demandRange_1 rfl rfl (fun _ => ?_) (fun c => absurd c h)
  exact VW.vret d_F_demandRange_12 rfl (Nat.zero_le _) (Nat.zero_le _) ex_rf
theorem sp_F_demandRange0 : Sp m_F_demandRange true rmD1 (ex K P J I (.inr eIAE)) K P J I [vI 0] := by
  refine Sp.ofV (by decide) (Or.inl rfl) rfl ?_
  refine VW.iload_n (pc' := 1) d_F_demandRange_0 rfl rfl ?_
  refine VW.if_ne (tgt := 12) (pc' := 4) d_F_demandRange_1 rfl rfl (fun c => absurd rfl c) (fun _ => ?_)
  exact VW.throw0 d_F_demandRange_4 d_F_demandRange_7 d_F_demandRange_8 d_F_demandRange_11 tIAE rfl (by decide) (by decide) (by decide) (by decide) ex_rf
end
