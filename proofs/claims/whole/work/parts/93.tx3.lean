section
variable {K : KT} {P : PT} {J I : IT}
theorem TxW.xf {x r w a b n f n2 : Nat} (h : TxW K P x r w a b n f n2) : x ≠ f := fun z => by have := h.1.symm.trans (z ▸ h.2.2.2.2.2.2); cases this
/-- a footprint more -/
def txFoot (I : IT) (x f : Nat) (z : Int) : IT := up2 (up2 I f (I x 17) z) x 17 (I x 17 + 1)
theorem sp_Transaction_noteFootprint0 {x r w a b n f n2 : Nat} {z : Int} (hG : TxW K P x r w a b n f n2) (h0 : 0 ≤ I x 17 ∧ I x 17 < n2 ∧ n2 ≤ 524288) : Sp m_Transaction_noteFootprint false ({ frames := 2, cells := 0, slots := 0, locals := 90 } : Room) (ex K P J (txFoot I x f z) (.inl none)) K P J I [vR (some x), vI z] := by
  refine Sp.ofV (by decide) (Or.inr rfl) rfl ?_
  have ne := hG.xf
  refine VW.aload_n (pc' := 1) d_Transaction_noteFootprint_0 rfl rfl ?_
  refine VW.gI (ci := 8) (T := T8) (N := 19) (k := 17) (k' := 17) (pc' := 4) d_Transaction_noteFootprint_1 rfl lk_Transaction_96 in8 rfl rfl rfl rfl (by first | exact hG.1 | exact hG.2.2.1.2 | exact hG.2.2.2.1.2 | exact hG.2.2.2.2.1.2 | exact hG.2.2.2.2.2.2) (by first | exact hG.2.1 | exact hG.2.2.1.1 | exact hG.2.2.2.1.1 | exact hG.2.2.2.2.1.1 | exact hG.2.2.2.2.2.1 | rfl) ?_
  refine VW.aload_n (pc' := 5) d_Transaction_noteFootprint_4 rfl rfl ?_
  refine VW.gP (ci := 8) (T := T8) (N := 19) (k := 18) (k' := 18) (pc' := 8) d_Transaction_noteFootprint_5 rfl lk_Transaction_38 in8 rfl rfl rfl rfl (by first | exact hG.1 | exact hG.2.2.1.2 | exact hG.2.2.2.1.2 | exact hG.2.2.2.2.1.2 | exact hG.2.2.2.2.2.2) (by first | exact hG.2.1 | exact hG.2.2.1.1 | exact hG.2.2.2.1.1 | exact hG.2.2.2.2.1.1 | exact hG.2.2.2.2.2.1 | rfl) ?_
  refine VW.alen (pc' := 9) d_Transaction_noteFootprint_8 rfl (by first | exact hG.1 | exact hG.2.2.1.2 | exact hG.2.2.2.1.2 | exact hG.2.2.2.2.1.2 | exact hG.2.2.2.2.2.2) (by simp) (by omega) ?_
  refine VW.icmp_ne (tgt := 29) (pc' := 12) d_Transaction_noteFootprint_9 rfl rfl (fun c9 => ?_) (fun c9 => ?_)
  · refine VW.aload_n (pc' := 30) d_Transaction_noteFootprint_29 rfl rfl ?_
    refine VW.gP (ci := 8) (T := T8) (N := 19) (k := 18) (k' := 18) (pc' := 33) d_Transaction_noteFootprint_30 rfl lk_Transaction_38 in8 rfl rfl rfl rfl (by first | exact hG.1 | exact hG.2.2.1.2 | exact hG.2.2.2.1.2 | exact hG.2.2.2.2.1.2 | exact hG.2.2.2.2.2.2) (by first | exact hG.2.1 | exact hG.2.2.1.1 | exact hG.2.2.2.1.1 | exact hG.2.2.2.2.1.1 | exact hG.2.2.2.2.2.1 | rfl) ?_
    refine VW.aload_n (pc' := 34) d_Transaction_noteFootprint_33 rfl rfl ?_
    refine VW.gI (ci := 8) (T := T8) (N := 19) (k := 17) (k' := 17) (pc' := 37) d_Transaction_noteFootprint_34 rfl lk_Transaction_96 in8 rfl rfl rfl rfl (by first | exact hG.1 | exact hG.2.2.1.2 | exact hG.2.2.2.1.2 | exact hG.2.2.2.2.1.2 | exact hG.2.2.2.2.2.2) (by first | exact hG.2.1 | exact hG.2.2.1.1 | exact hG.2.2.2.1.1 | exact hG.2.2.2.2.1.1 | exact hG.2.2.2.2.2.1 | rfl) ?_
    refine VW.iload_n (pc' := 38) d_Transaction_noteFootprint_37 rfl rfl ?_
    refine VW.iast (pc' := 39) d_Transaction_noteFootprint_38 rfl (by first | exact hG.1 | exact hG.2.2.1.2 | exact hG.2.2.2.1.2 | exact hG.2.2.2.2.1.2 | exact hG.2.2.2.2.2.2) (by omega) (by omega) ?_
    refine VW.aload_n (pc' := 40) d_Transaction_noteFootprint_39 rfl rfl ?_
    refine VW.dup (pc' := 41) d_Transaction_noteFootprint_40 rfl rfl ?_
    refine VW.gI (ci := 8) (T := T8) (N := 19) (k := 17) (k' := 17) (pc' := 44) d_Transaction_noteFootprint_41 rfl lk_Transaction_96 in8 rfl rfl rfl rfl (by first | exact hG.1 | exact hG.2.2.1.2 | exact hG.2.2.2.1.2 | exact hG.2.2.2.2.1.2 | exact hG.2.2.2.2.2.2) (up2_o _ _ _ _ ne) ?_
    refine VW.iconst (pc' := 45) d_Transaction_noteFootprint_44 rfl (by decide) ?_
    refine VW.iadd (pc' := 46) d_Transaction_noteFootprint_45 rfl (by omega) ?_
    refine VW.pI (ci := 8) (T := T8) (N := 19) (k := 17) (k' := 17) (ty := ty8) (pc' := 49) d_Transaction_noteFootprint_46 rfl lk_Transaction_96 in8 tk8 nm8 rfl rfl rfl rfl rfl rfl (by first | exact hG.1 | exact hG.2.2.1.2 | exact hG.2.2.2.1.2 | exact hG.2.2.2.2.1.2 | exact hG.2.2.2.2.2.2) ?_
    exact VW.vret d_Transaction_noteFootprint_49 rfl (Nat.zero_le _) (Nat.zero_le _) ex_rf
  · exfalso; omega
end
