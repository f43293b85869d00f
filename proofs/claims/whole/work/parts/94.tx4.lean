section
variable {K : KT} {P : PT} {J I : IT}
theorem TxW.xab {x r w a b n f n2 : Nat} (h : TxW K P x r w a b n f n2) : x ≠ a ∧ x ≠ b := by
  refine ⟨fun z => ?_, fun z => ?_⟩
  · have := h.1.symm.trans (z ▸ h.2.2.2.1.2); cases this
  · have := h.1.symm.trans (z ▸ h.2.2.2.2.1.2); cases this
/-- a key more that was read -/
def txKey (I : IT) (x a b : Nat) (t y : Int) : IT := up2 (up2 (up2 I a (I x 14) t) b (I x 14) y) x 14 (I x 14 + 1)
noncomputable def txRead (I : IT) (x a b : Nat) (t y : Int) : IT := if txRd I x a b t y = 1 then I else txKey I x a b t y
theorem sp_Transaction_readKey0 {x r w a b n f n2 : Nat} {t y : Int} (hG : TxW K P x r w a b n f n2) (hr : 0 ≤ I x 14 ∧ I x 14 ≤ n ∧ n ≤ 524288) (hg : txRd I x a b t y = 1 ∨ I x 14 < n) : Sp m_Transaction_readKey false ({ frames := 2, cells := 0, slots := 0, locals := 90 } : Room) (ex K P J (txRead I x a b t y) (.inl none)) K P J I [vR (some x), vI t, vI y] := by
  refine Sp.ofV (by decide) (Or.inr rfl) rfl ?_
  have ne := hG.xab
  have w2 : txRd I x a b t y = 0 ∨ txRd I x a b t y = 1 := bI_01 _
  have y1 : txRd I x a b t y = 1 → txRead I x a b t y = I := fun z => if_pos z
  have y0 : ¬ txRd I x a b t y = 1 → txRead I x a b t y = txKey I x a b t y := fun z => if_neg z
  refine VW.aload_n (pc' := 1) d_Transaction_readKey_0 rfl rfl ?_
  refine VW.iload_n (pc' := 2) d_Transaction_readKey_1 rfl rfl ?_
  refine VW.iload_n (pc' := 3) d_Transaction_readKey_2 rfl rfl ?_
  refine VW.cV (ci := 8) (T := T8) (N := 19) (pc' := 6) d_Transaction_readKey_3 rfl mv_Transaction_hasReadKey lk_Transaction_81 rfl (by first | exact hG.1 | exact hG.2.2.1.2 | exact hG.2.2.2.1.2 | exact hG.2.2.2.2.1.2 | exact hG.2.2.2.2.2.2) rfl rfl rfl (Nat.le_refl _) (Nat.le_refl _) (sp_Transaction_hasReadKey hG hr) rfl rfl ?_
  refine VW.if_eq (tgt := 10) (pc' := 9) d_Transaction_readKey_6 rfl rfl (fun c6 => ?_) (fun c6 => ?_)
  · try have e6 := bIe c6
    refine VW.aload_n (pc' := 11) d_Transaction_readKey_10 rfl rfl ?_
    refine VW.gI (ci := 8) (T := T8) (N := 19) (k := 14) (k' := 14) (pc' := 14) d_Transaction_readKey_11 rfl lk_Transaction_85 in8 rfl rfl rfl rfl (by first | exact hG.1 | exact hG.2.2.1.2 | exact hG.2.2.2.1.2 | exact hG.2.2.2.2.1.2 | exact hG.2.2.2.2.2.2) (by first | exact hG.2.1 | exact hG.2.2.1.1 | exact hG.2.2.2.1.1 | exact hG.2.2.2.2.1.1 | exact hG.2.2.2.2.2.1 | rfl) ?_
    refine VW.aload_n (pc' := 15) d_Transaction_readKey_14 rfl rfl ?_
    refine VW.gP (ci := 8) (T := T8) (N := 19) (k := 16) (k' := 16) (pc' := 18) d_Transaction_readKey_15 rfl lk_Transaction_35 in8 rfl rfl rfl rfl (by first | exact hG.1 | exact hG.2.2.1.2 | exact hG.2.2.2.1.2 | exact hG.2.2.2.2.1.2 | exact hG.2.2.2.2.2.2) (by first | exact hG.2.1 | exact hG.2.2.1.1 | exact hG.2.2.2.1.1 | exact hG.2.2.2.2.1.1 | exact hG.2.2.2.2.2.1 | rfl) ?_
    refine VW.alen (pc' := 19) d_Transaction_readKey_18 rfl (by first | exact hG.1 | exact hG.2.2.1.2 | exact hG.2.2.2.1.2 | exact hG.2.2.2.2.1.2 | exact hG.2.2.2.2.2.2) (by simp) (by omega) ?_
    refine VW.icmp_ne (tgt := 56) (pc' := 22) d_Transaction_readKey_19 rfl rfl (fun c19 => ?_) (fun c19 => ?_)
    · refine VW.aload_n (pc' := 57) d_Transaction_readKey_56 rfl rfl ?_
      refine VW.gP (ci := 8) (T := T8) (N := 19) (k := 15) (k' := 15) (pc' := 60) d_Transaction_readKey_57 rfl lk_Transaction_32 in8 rfl rfl rfl rfl (by first | exact hG.1 | exact hG.2.2.1.2 | exact hG.2.2.2.1.2 | exact hG.2.2.2.2.1.2 | exact hG.2.2.2.2.2.2) (by first | exact hG.2.1 | exact hG.2.2.1.1 | exact hG.2.2.2.1.1 | exact hG.2.2.2.2.1.1 | exact hG.2.2.2.2.2.1 | rfl) ?_
      refine VW.aload_n (pc' := 61) d_Transaction_readKey_60 rfl rfl ?_
      refine VW.gI (ci := 8) (T := T8) (N := 19) (k := 14) (k' := 14) (pc' := 64) d_Transaction_readKey_61 rfl lk_Transaction_85 in8 rfl rfl rfl rfl (by first | exact hG.1 | exact hG.2.2.1.2 | exact hG.2.2.2.1.2 | exact hG.2.2.2.2.1.2 | exact hG.2.2.2.2.2.2) (rfl) ?_
      refine VW.iload_n (pc' := 65) d_Transaction_readKey_64 rfl rfl ?_
      refine VW.iast (pc' := 66) d_Transaction_readKey_65 rfl (by first | exact hG.1 | exact hG.2.2.1.2 | exact hG.2.2.2.1.2 | exact hG.2.2.2.2.1.2 | exact hG.2.2.2.2.2.2) (by omega) (by omega) ?_
      refine VW.aload_n (pc' := 67) d_Transaction_readKey_66 rfl rfl ?_
      refine VW.gP (ci := 8) (T := T8) (N := 19) (k := 16) (k' := 16) (pc' := 70) d_Transaction_readKey_67 rfl lk_Transaction_35 in8 rfl rfl rfl rfl (by first | exact hG.1 | exact hG.2.2.1.2 | exact hG.2.2.2.1.2 | exact hG.2.2.2.2.1.2 | exact hG.2.2.2.2.2.2) (by first | exact hG.2.1 | exact hG.2.2.1.1 | exact hG.2.2.2.1.1 | exact hG.2.2.2.2.1.1 | exact hG.2.2.2.2.2.1 | rfl) ?_
      refine VW.aload_n (pc' := 71) d_Transaction_readKey_70 rfl rfl ?_
      refine VW.gI (ci := 8) (T := T8) (N := 19) (k := 14) (k' := 14) (pc' := 74) d_Transaction_readKey_71 rfl lk_Transaction_85 in8 rfl rfl rfl rfl (by first | exact hG.1 | exact hG.2.2.1.2 | exact hG.2.2.2.1.2 | exact hG.2.2.2.2.1.2 | exact hG.2.2.2.2.2.2) (up2_o _ _ _ _ ne.1) ?_
      refine VW.iload_n (pc' := 75) d_Transaction_readKey_74 rfl rfl ?_
      refine VW.iast (pc' := 76) d_Transaction_readKey_75 rfl (by first | exact hG.1 | exact hG.2.2.1.2 | exact hG.2.2.2.1.2 | exact hG.2.2.2.2.1.2 | exact hG.2.2.2.2.2.2) (by omega) (by omega) ?_
      refine VW.aload_n (pc' := 77) d_Transaction_readKey_76 rfl rfl ?_
      refine VW.dup (pc' := 78) d_Transaction_readKey_77 rfl rfl ?_
      refine VW.gI (ci := 8) (T := T8) (N := 19) (k := 14) (k' := 14) (pc' := 81) d_Transaction_readKey_78 rfl lk_Transaction_85 in8 rfl rfl rfl rfl (by first | exact hG.1 | exact hG.2.2.1.2 | exact hG.2.2.2.1.2 | exact hG.2.2.2.2.1.2 | exact hG.2.2.2.2.2.2) ((up2_o _ _ _ _ ne.2).trans (up2_o _ _ _ _ ne.1)) ?_
      refine VW.iconst (pc' := 82) d_Transaction_readKey_81 rfl (by decide) ?_
      refine VW.iadd (pc' := 83) d_Transaction_readKey_82 rfl (by omega) ?_
      refine VW.pI (ci := 8) (T := T8) (N := 19) (k := 14) (k' := 14) (ty := ty8) (pc' := 86) d_Transaction_readKey_83 rfl lk_Transaction_85 in8 tk8 nm8 rfl rfl rfl rfl rfl rfl (by first | exact hG.1 | exact hG.2.2.1.2 | exact hG.2.2.2.1.2 | exact hG.2.2.2.2.1.2 | exact hG.2.2.2.2.2.2) ?_
      exact VW.vret d_Transaction_readKey_86 rfl (Nat.zero_le _) (Nat.zero_le _) (by rw [y0 (by omega)]; exact ex_rf)
    · exfalso; omega
  · try have e6 := bIn c6
    exact VW.vret d_Transaction_readKey_9 rfl (Nat.zero_le _) (Nat.zero_le _) (by rw [y1 (by omega)]; exact ex_rf)
end
