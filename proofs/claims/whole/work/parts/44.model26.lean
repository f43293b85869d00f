/-- ends of which the ints are known only by what holds of them -/
def exU (K : KT) (P : PT) (J : IT) (rr : Option AV ⊕ String) (φ : IT → Prop) : PQ := fun r K' P' J' I' => r = rr ∧ K' = K ∧ P' = P ∧ J' = J ∧ φ I'
theorem exU_mk {K : KT} {P : PT} {J I : IT} {rr : Option AV ⊕ String} {φ : IT → Prop} (h : φ I) : exU K P J rr φ rr K P J I := ⟨rfl, rfl, rfl, rfl, h⟩
section
variable {M : MD} {R : Room} {Q : PQ} {K K1 : KT} {P P1 : PT} {J I J1 : IT} {cs n pc pc' j : Nat} {L : List (Nat × AV)} {S St as : List AV} {My : MD} {Ry : Room} {x : Bool} {v : Option AV} {φ : IT → Prop}
theorem VW.cVu {o ci n0 k : Nat} {T : u_T} {N : Nat} (d : decode M.2.1 pc = .ok (.invokevirtual j, 3)) (hp : pc + 3 = pc') (hm : MV My k) (hl : Cond.methodLink M.1.cls j My.1 ∈ TB) (hc : classes[ci]? = some (My.1.cls, T, N)) (ho : K o = some (ci, n0)) (h8 : Nat.ble (sl S) 8 = true) (hR1 : Nat.ble (Ry.frames + 1) R.frames = true) (hR2 : Nat.ble (8 + (My.2.2.1 + 11) + Ry.locals) R.locals = true) (hcs : cs + Ry.cells ≤ R.cells) (hn : n + Ry.slots ≤ R.slots) (hs : Sp My false Ry (exU K1 P1 J1 (.inl v) φ) K P J I (vR (some o) :: as)) (hst : St = as.reverse ++ vR (some o) :: S) (hk : as.length = k)
    (kk : ∀ I1, φ I1 → VW M x R Q K1 P1 J1 I1 (cs + Ry.cells) (n + Ry.slots) pc' L (v.toList ++ S)) : VW M x R Q K P J I cs n pc L St :=
  VW.callV d hp hs hst hm.1 hm.2.1 hk hm.2.2.1 hm.2.2.2 hl hc ho h8 hR1 hR2 hcs hn (fun r K' P' J' I' h => by obtain ⟨h1, h2, h3, h4, h5⟩ := h; cases h1; subst h2; subst h3; subst h4; exact kk _ h5)
theorem VW.cSu {k : Nat} (d : decode M.2.1 pc = .ok (.invokestatic j, 3)) (hp : pc + 3 = pc') (hm : MS My k) (hl : Cond.methodLink M.1.cls j My.1 ∈ TB) (h8 : Nat.ble (sl S) 8 = true) (hR1 : Nat.ble (Ry.frames + 1) R.frames = true) (hR2 : Nat.ble (8 + (My.2.2.1 + 11) + Ry.locals) R.locals = true) (hcs : cs + Ry.cells ≤ R.cells) (hn : n + Ry.slots ≤ R.slots) (hs : Sp My false Ry (exU K1 P1 J1 (.inl v) φ) K P J I (as)) (hst : St = as.reverse ++ S) (hk : as.length = k)
    (kk : ∀ I1, φ I1 → VW M x R Q K1 P1 J1 I1 (cs + Ry.cells) (n + Ry.slots) pc' L (v.toList ++ S)) : VW M x R Q K P J I cs n pc L St :=
  VW.callS d hp hs hst hm.1 hm.2.1 hk hm.2.2 hl h8 hR1 hR2 hcs hn (fun r K' P' J' I' h => by obtain ⟨h1, h2, h3, h4, h5⟩ := h; cases h1; subst h2; subst h3; subst h4; exact kk _ h5)
theorem VW.cSNu {k : Nat} {host : String} (d : decode M.2.1 pc = .ok (.invokestatic j, 3)) (hp : pc + 3 = pc') (hm : MS My k) (hl : (M.1.cls, j, My.1, host) ∈ NB) (h8 : Nat.ble (sl S) 8 = true) (hR1 : Nat.ble (Ry.frames + 1) R.frames = true) (hR2 : Nat.ble (8 + (My.2.2.1 + 11) + Ry.locals) R.locals = true) (hcs : cs + Ry.cells ≤ R.cells) (hn : n + Ry.slots ≤ R.slots) (hs : Sp My false Ry (exU K1 P1 J1 (.inl v) φ) K P J I (as)) (hst : St = as.reverse ++ S) (hk : as.length = k)
    (kk : ∀ I1, φ I1 → VW M x R Q K1 P1 J1 I1 (cs + Ry.cells) (n + Ry.slots) pc' L (v.toList ++ S)) : VW M x R Q K P J I cs n pc L St :=
  VW.callSN d hp hs hst hm.1 hm.2.1 hk hm.2.2 hl h8 hR1 hR2 hcs hn (fun r K' P' J' I' h => by obtain ⟨h1, h2, h3, h4, h5⟩ := h; cases h1; subst h2; subst h3; subst h4; exact kk _ h5)
theorem VW.cIu {o k : Nat} (d : decode M.2.1 pc = .ok (.invokespecial j, 3)) (hp : pc + 3 = pc') (hm : MI My k) (hl : Cond.methodLink M.1.cls j My.1 ∈ TB) (h8 : Nat.ble (sl S) 8 = true) (hR1 : Nat.ble (Ry.frames + 1) R.frames = true) (hR2 : Nat.ble (8 + (My.2.2.1 + 11) + Ry.locals) R.locals = true) (hcs : cs + Ry.cells ≤ R.cells) (hn : n + Ry.slots ≤ R.slots) (hs : Sp My false Ry (exU K1 P1 J1 (.inl v) φ) K P J I (vR (some o) :: as)) (hst : St = as.reverse ++ vR (some o) :: S) (hk : as.length = k)
    (kk : ∀ I1, φ I1 → VW M x R Q K1 P1 J1 I1 (cs + Ry.cells) (n + Ry.slots) pc' L (v.toList ++ S)) : VW M x R Q K P J I cs n pc L St :=
  VW.callI d hp hs hst hm.1 hm.2.1 hk hm.2.2.1 hm.2.2.2.1 hm.2.2.2.2 hl h8 hR1 hR2 hcs hn (fun r K' P' J' I' h => by obtain ⟨h1, h2, h3, h4, h5⟩ := h; cases h1; subst h2; subst h3; subst h4; exact kk _ h5)
theorem VW.cINu {o k : Nat} {host : String} (d : decode M.2.1 pc = .ok (.invokespecial j, 3)) (hp : pc + 3 = pc') (hm : MI My k) (hl : (M.1.cls, j, My.1, host) ∈ NB) (h8 : Nat.ble (sl S) 8 = true) (hR1 : Nat.ble (Ry.frames + 1) R.frames = true) (hR2 : Nat.ble (8 + (My.2.2.1 + 11) + Ry.locals) R.locals = true) (hcs : cs + Ry.cells ≤ R.cells) (hn : n + Ry.slots ≤ R.slots) (hs : Sp My false Ry (exU K1 P1 J1 (.inl v) φ) K P J I (vR (some o) :: as)) (hst : St = as.reverse ++ vR (some o) :: S) (hk : as.length = k)
    (kk : ∀ I1, φ I1 → VW M x R Q K1 P1 J1 I1 (cs + Ry.cells) (n + Ry.slots) pc' L (v.toList ++ S)) : VW M x R Q K P J I cs n pc L St :=
  VW.callIN d hp hs hst hm.1 hm.2.1 hk hm.2.2.1 hm.2.2.2.1 hm.2.2.2.2 hl h8 hR1 hR2 hcs hn (fun r K' P' J' I' h => by obtain ⟨h1, h2, h3, h4, h5⟩ := h; cases h1; subst h2; subst h3; subst h4; exact kk _ h5)
end
section
variable {K : KT} {P : PT} {J I : IT}
theorem up2_same {α : Type} (f : Nat → Int → α) (o : Nat) (k : Int) : up2 f o k (f o k) = f := by
  funext a b
  unfold up2
  by_cases h : a = o ∧ b = k
  · rw [if_pos h, h.1, h.2]
  · rw [if_neg h]
/-- where the next result begins -/
def mTop (I : IT) : Int := if I 100 71 = 0 then 0 else I 272 (I 100 71 - 1) + I 273 (I 100 71 - 1) * I 274 (I 100 71 - 1)
theorem sp_Model_top (hM : MW K P) (h0 : 0 ≤ I 100 71 ∧ I 100 71 ≤ 12) (h1 : I 100 71 ≠ 0 → (0 ≤ I 272 (I 100 71 - 1) ∧ I 272 (I 100 71 - 1) ≤ 700000) ∧ 0 ≤ I 273 (I 100 71 - 1) * I 274 (I 100 71 - 1) ∧ I 273 (I 100 71 - 1) * I 274 (I 100 71 - 1) ≤ 100000) : Sp m_Model_top false (rmv 0 0) (ex K P J I (.inl (some (vI (mTop I))))) K P J I [vR (some 100)] := by
  refine Sp.ofV (by decide) (Or.inr rfl) rfl ?_
  refine VW.aload_n (pc' := 1) d_Model_top_0 rfl rfl ?_
  refine VW.gI (ci := 11) (T := T11) (N := 94) (k := 71) (k' := 71) (pc' := 4) d_Model_top_1 rfl lk_Model_434 in11 rfl rfl rfl rfl (hM.k rfl) (by first | assumption | (simp [up2] <;> rfl) | rfl) ?_
  refine VW.if_ne (tgt := 11) (pc' := 7) d_Model_top_4 rfl rfl (fun c4 => ?_) (fun c4 => ?_)
  · try have e4 := bIn c4
    have h2 := h1 c4
    refine VW.aload_n (pc' := 12) d_Model_top_11 rfl rfl ?_
    refine VW.gP (ci := 11) (T := T11) (N := 94) (k := 72) (k' := 72) (pc' := 15) d_Model_top_12 rfl lk_Model_181 in11 rfl rfl rfl rfl (hM.k rfl) (hM.p (r := some 272) 72 rfl rfl) ?_
    refine VW.aload_n (pc' := 16) d_Model_top_15 rfl rfl ?_
    refine VW.gI (ci := 11) (T := T11) (N := 94) (k := 71) (k' := 71) (pc' := 19) d_Model_top_16 rfl lk_Model_434 in11 rfl rfl rfl rfl (hM.k rfl) (by first | assumption | (simp [up2] <;> rfl) | rfl) ?_
    refine VW.iconst (pc' := 20) d_Model_top_19 rfl (by decide) ?_
    refine VW.isub (pc' := 21) d_Model_top_20 rfl (by omega) ?_
    refine VW.ild (pc' := 22) d_Model_top_21 rfl (hM.k rfl) (by omega) (by omega) (by first | assumption | (simp [up2] <;> rfl) | rfl) ?_
    refine VW.aload_n (pc' := 23) d_Model_top_22 rfl rfl ?_
    refine VW.gP (ci := 11) (T := T11) (N := 94) (k := 73) (k' := 73) (pc' := 26) d_Model_top_23 rfl lk_Model_184 in11 rfl rfl rfl rfl (hM.k rfl) (hM.p (r := some 273) 73 rfl rfl) ?_
    refine VW.aload_n (pc' := 27) d_Model_top_26 rfl rfl ?_
    refine VW.gI (ci := 11) (T := T11) (N := 94) (k := 71) (k' := 71) (pc' := 30) d_Model_top_27 rfl lk_Model_434 in11 rfl rfl rfl rfl (hM.k rfl) (by first | assumption | (simp [up2] <;> rfl) | rfl) ?_
    refine VW.iconst (pc' := 31) d_Model_top_30 rfl (by decide) ?_
    refine VW.isub (pc' := 32) d_Model_top_31 rfl (by omega) ?_
    refine VW.ild (pc' := 33) d_Model_top_32 rfl (hM.k rfl) (by omega) (by omega) (by first | assumption | (simp [up2] <;> rfl) | rfl) ?_
    refine VW.aload_n (pc' := 34) d_Model_top_33 rfl rfl ?_
    refine VW.gP (ci := 11) (T := T11) (N := 94) (k := 74) (k' := 74) (pc' := 37) d_Model_top_34 rfl lk_Model_187 in11 rfl rfl rfl rfl (hM.k rfl) (hM.p (r := some 274) 74 rfl rfl) ?_
    refine VW.aload_n (pc' := 38) d_Model_top_37 rfl rfl ?_
    refine VW.gI (ci := 11) (T := T11) (N := 94) (k := 71) (k' := 71) (pc' := 41) d_Model_top_38 rfl lk_Model_434 in11 rfl rfl rfl rfl (hM.k rfl) (by first | assumption | (simp [up2] <;> rfl) | rfl) ?_
    refine VW.iconst (pc' := 42) d_Model_top_41 rfl (by decide) ?_
    refine VW.isub (pc' := 43) d_Model_top_42 rfl (by omega) ?_
    refine VW.ild (pc' := 44) d_Model_top_43 rfl (hM.k rfl) (by omega) (by omega) (by first | assumption | (simp [up2] <;> rfl) | rfl) ?_
    refine VW.imul (pc' := 45) d_Model_top_44 rfl (by omega) ?_
    refine VW.iadd (pc' := 46) d_Model_top_45 rfl (by omega) ?_
    exact VW.iret d_Model_top_46 rfl rfl (Nat.zero_le _) (Nat.zero_le _) (by first | exact ex_v (if_pos c4) | exact ex_v (if_neg c4))
  · try have e4 := bIe c4
    refine VW.iconst (pc' := 8) d_Model_top_7 rfl (by decide) ?_
    refine VW.goto (pc' := 46) d_Model_top_8 rfl ?_
    exact VW.iret d_Model_top_46 rfl rfl (Nat.zero_le _) (Nat.zero_le _) (by first | exact ex_v (if_pos c4) | exact ex_v (if_neg c4))
/-- whether a row stays by a FILTER or a RATIO, and whether it makes it fail -/
def stayP (op A B C nt : Int) (r : List Int) : Prop :=
  (op = 3 ∧ nth r A ≠ -2147483648 ∧ nth r B ≠ -2147483648 ∧ nth r B ≠ 0 ∧ (nth r A).tdiv (nth r B) = C) ∨
  (op ≠ 3 ∧ op = 1 ∧ cmp3 (nth r A) B C = (if nt = 0 then 1 else 0)) ∨
  (op ≠ 3 ∧ op ≠ 1 ∧ cmp3 (nth r A) B (nth r C) = (if nt = 0 then 1 else 0))
def stayF (op A B : Int) (r : List Int) : Prop := op = 3 ∧ nth r A ≠ -2147483648 ∧ nth r B ≠ -2147483648 ∧ nth r B = 0
theorem tdivR {a b : Int} (ha : inR a) (h1 : a ≠ -2147483648) : inR (a.tdiv b) := by
  have h : (a.tdiv b).natAbs = a.natAbs / b.natAbs := Int.natAbs_tdiv a b
  have h2 : a.natAbs / b.natAbs ≤ a.natAbs := Nat.div_le_self _ _
  omega
/-- the columns of an operator are there -/
def opIn (op A B C : Int) (w : Nat) : Prop := (0 ≤ A ∧ A < w) ∧ (op = 3 → 0 ≤ B ∧ B < w) ∧ (op ≠ 3 → op ≠ 1 → 0 ≤ C ∧ C < w)
theorem sp_Model_stays {x p : Int} {w : Nat} (hM : MW K P) (hx : 0 ≤ x ∧ x < 252) (hp : 0 ≤ p ∧ p + w ≤ 800000) (hc : opIn (I 256 x) (I 257 x) (I 258 x) (I 259 x) w) (hf : I 100 75 = 0 ∨ I 100 75 = 1) : Sp m_Model_stays false (rmv 1 23) (ex K P J (up2 I 100 75 (bI (I 100 75 = 1 ∨ stayF (I 256 x) (I 257 x) (I 258 x) (rowAt I 270 p w)))) (.inl (some (vI (bI (stayP (I 256 x) (I 257 x) (I 258 x) (I 259 x) (I 260 x) (rowAt I 270 p w))))))) K P J I [vR (some 100), vI x, vI p] := by
  refine Sp.ofV (by decide) (Or.inr rfl) rfl ?_
  refine VW.know (fun hwf hws hwl => ?_)
  have rA := hwf.1 270 (p + I 257 x)
  obtain ⟨cA, cB, cC⟩ := hc
  have eA : nth (rowAt I 270 p w) (I 257 x) = I 270 (p + I 257 x) := nth_rowAt cA.1 cA.2
  have noF : I 256 x ≠ 3 → I = up2 I 100 75 (bI (I 100 75 = 1 ∨ stayF (I 256 x) (I 257 x) (I 258 x) (rowAt I 270 p w))) := fun z => by
    have e : bI (I 100 75 = 1 ∨ stayF (I 256 x) (I 257 x) (I 258 x) (rowAt I 270 p w)) = I 100 75 := by
      rcases hf with h | h
      · rw [h]; exact bI0 (fun y => y.elim (fun q => by omega) (fun q => z q.1))
      · rw [h]; exact bI1 (Or.inl rfl)
    rw [e]; exact (up2_same I 100 75).symm
  have nul : (I 256 x = 3 ∧ (nth (rowAt I 270 p w) (I 257 x) = -2147483648 ∨ nth (rowAt I 270 p w) (I 258 x) = -2147483648)) → I = up2 I 100 75 (bI (I 100 75 = 1 ∨ stayF (I 256 x) (I 257 x) (I 258 x) (rowAt I 270 p w))) := fun z => by
    have e : bI (I 100 75 = 1 ∨ stayF (I 256 x) (I 257 x) (I 258 x) (rowAt I 270 p w)) = I 100 75 := by
      rcases hf with h | h
      · rw [h]; exact bI0 (fun y => y.elim (fun q => by omega) (fun q => z.2.elim q.2.1 q.2.2.1))
      · rw [h]; exact bI1 (Or.inl rfl)
    rw [e]; exact (up2_same I 100 75).symm
  have ratio : I 256 x = 3 → VW m_Model_stays false (rmv 1 23) (ex K P J (up2 I 100 75 (bI (I 100 75 = 1 ∨ stayF (I 256 x) (I 257 x) (I 258 x) (rowAt I 270 p w)))) (.inl (some (vI (bI (stayP (I 256 x) (I 257 x) (I 258 x) (I 259 x) (I 260 x) (rowAt I 270 p w))))))) K P J I 0 0 24 [(0, vR (some 100)), (1, vI x), (2, vI p), (3, vI (I 270 (p + I 257 x)))] [] := by
    intro h3
    have cB' := cB h3
    have eB : nth (rowAt I 270 p w) (I 258 x) = I 270 (p + I 258 x) := nth_rowAt cB'.1 cB'.2
    have hFa : ∀ z : Int, z = 1 → I 270 (p + I 257 x) ≠ -2147483648 → I 270 (p + I 258 x) ≠ -2147483648 → (I 100 75 ≠ 0 ∨ I 270 (p + I 258 x) = 0) → up2 I 100 75 z = up2 I 100 75 (bI (I 100 75 = 1 ∨ stayF (I 256 x) (I 257 x) (I 258 x) (rowAt I 270 p w))) := fun z hz y1 y2 y3 => by
      rw [hz, show bI (I 100 75 = 1 ∨ stayF (I 256 x) (I 257 x) (I 258 x) (rowAt I 270 p w)) = 1 from bI1 (y3.elim (fun q => Or.inl (by omega)) (fun q => Or.inr ⟨h3, by rw [eA]; exact y1, by rw [eB]; exact y2, by rw [eB]; exact q⟩))]
    have hFb : ∀ z : Int, z = 0 → I 100 75 = 0 → I 270 (p + I 258 x) ≠ 0 → up2 I 100 75 z = up2 I 100 75 (bI (I 100 75 = 1 ∨ stayF (I 256 x) (I 257 x) (I 258 x) (rowAt I 270 p w))) := fun z hz y1 y2 => by
      rw [hz, show bI (I 100 75 = 1 ∨ stayF (I 256 x) (I 257 x) (I 258 x) (rowAt I 270 p w)) = 0 from bI0 (fun q => q.elim (fun q => by omega) (fun q => y2 (by rw [← eB]; exact q.2.2.2)))]
    have sN : (¬ (I 270 (p + I 257 x) ≠ -2147483648 ∧ I 270 (p + I 258 x) ≠ -2147483648 ∧ I 270 (p + I 258 x) ≠ 0 ∧ (I 270 (p + I 257 x)).tdiv (I 270 (p + I 258 x)) = I 259 x)) → ¬ stayP (I 256 x) (I 257 x) (I 258 x) (I 259 x) (I 260 x) (rowAt I 270 p w) := fun z q => by
      rcases q with q | q | q
      · exact z ⟨by rw [← eA]; exact q.2.1, by rw [← eB]; exact q.2.2.1, by rw [← eB]; exact q.2.2.2.1, by rw [← eA, ← eB]; exact q.2.2.2.2⟩
      · exact q.1 h3
      · exact q.1 h3
    have sY : (I 270 (p + I 257 x) ≠ -2147483648 ∧ I 270 (p + I 258 x) ≠ -2147483648 ∧ I 270 (p + I 258 x) ≠ 0 ∧ (I 270 (p + I 257 x)).tdiv (I 270 (p + I 258 x)) = I 259 x) → stayP (I 256 x) (I 257 x) (I 258 x) (I 259 x) (I 260 x) (rowAt I 270 p w) := fun z =>
      Or.inl ⟨h3, by rw [eA]; exact z.1, by rw [eB]; exact z.2.1, by rw [eB]; exact z.2.2.1, by rw [eA, eB]; exact z.2.2.2⟩
    have nul1 := fun (z : I 270 (p + I 257 x) = -2147483648 ∨ I 270 (p + I 258 x) = -2147483648) => nul ⟨h3, by rw [eA, eB]; exact z⟩
    have tR := fun (z : I 270 (p + I 257 x) ≠ -2147483648) => tdivR (b := I 270 (p + I 258 x)) rA z
    clear nul noF cC
    refine VW.aload_n (pc' := 25) d_Model_stays_24 rfl rfl ?_
    refine VW.gP (ci := 11) (T := T11) (N := 94) (k := 70) (k' := 70) (pc' := 28) d_Model_stays_25 rfl lk_Model_178 in11 rfl rfl rfl rfl (hM.k rfl) (hM.p (r := some 270) 70 rfl rfl) ?_
    refine VW.iload_n (pc' := 29) d_Model_stays_28 rfl rfl ?_
    refine VW.aload_n (pc' := 30) d_Model_stays_29 rfl rfl ?_
    refine VW.gP (ci := 11) (T := T11) (N := 94) (k := 58) (k' := 58) (pc' := 33) d_Model_stays_30 rfl lk_Model_150 in11 rfl rfl rfl rfl (hM.k rfl) (hM.p (r := some 258) 58 rfl rfl) ?_
    refine VW.iload_n (pc' := 34) d_Model_stays_33 rfl rfl ?_
    refine VW.ild (pc' := 35) d_Model_stays_34 rfl (hM.k rfl) (by omega) (by omega) (by first | exact up2_o _ _ _ _ (by decide) | rfl) ?_
    refine VW.iadd (pc' := 36) d_Model_stays_35 rfl (by omega) ?_
    refine VW.ild (pc' := 37) d_Model_stays_36 rfl (hM.k rfl) (by omega) (by omega) (by first | exact up2_o _ _ _ _ (by decide) | rfl) ?_
    refine VW.istore (pc' := 39) d_Model_stays_37 rfl rfl ?_
    refine VW.iload_n (pc' := 40) d_Model_stays_39 rfl rfl ?_
    refine VW.ldc (pc' := 42) (z := -2147483648) d_Model_stays_40 rfl lk_Model_246 (by decide) (by decide) ?_
    refine VW.icmp_eq (tgt := 52) (pc' := 45) d_Model_stays_42 rfl rfl (fun c42 => ?_) (fun c42 => ?_)
    · refine VW.iconst (pc' := 53) d_Model_stays_52 rfl (by decide) ?_
      exact VW.iret d_Model_stays_53 rfl rfl (Nat.zero_le _) (Nat.zero_le _) (by first | (refine ex_cong (nul1 (Or.inl c42)) ?_; have q := bI0 (sN (fun z => z.1 c42)); rw [q]; done) | (refine ex_cong (nul1 (Or.inr c49)) ?_; have q := bI0 (sN (fun z => z.2.1 c49)); rw [q]; done) | (refine ex_cong (hFa _ rfl c42 c49 (Or.inl c59)) ?_; have q := bI0 (sN (fun z => z.2.2.1 c77)); rw [q]; done) | (refine ex_cong (hFa _ rfl c42 c49 (Or.inl c59)) ?_; have q := bI0 (sN (fun z => c99 z.2.2.2)); rw [q]; done) | (refine ex_cong (hFa _ rfl c42 c49 (Or.inl c59)) ?_; have q := bI1 (sY ⟨c42, c49, c77, c99⟩); rw [q]; done) | (refine ex_cong (hFa _ rfl c42 c49 (Or.inr c64)) ?_; have q := bI0 (sN (fun z => z.2.2.1 c64)); rw [q]; done) | (refine ex_cong (hFb _ rfl c59 c64) ?_; have q := bI0 (sN (fun z => c99 z.2.2.2)); rw [q]; done) | (refine ex_cong (hFb _ rfl c59 c64) ?_; have q := bI1 (sY ⟨c42, c49, c77, c99⟩); rw [q]; done) | (exfalso; omega))
    · refine VW.iload (pc' := 47) d_Model_stays_45 rfl rfl ?_
      refine VW.ldc (pc' := 49) (z := -2147483648) d_Model_stays_47 rfl lk_Model_246 (by decide) (by decide) ?_
      refine VW.icmp_ne (tgt := 54) (pc' := 52) d_Model_stays_49 rfl rfl (fun c49 => ?_) (fun c49 => ?_)
      · refine VW.aload_n (pc' := 55) d_Model_stays_54 rfl rfl ?_
        refine VW.aload_n (pc' := 56) d_Model_stays_55 rfl rfl ?_
        refine VW.gI (ci := 11) (T := T11) (N := 94) (k := 75) (k' := 75) (pc' := 59) d_Model_stays_56 rfl lk_Model_440 in11 rfl rfl rfl rfl (hM.k rfl) (by first | exact up2_o _ _ _ _ (by decide) | rfl) ?_
        refine VW.if_ne (tgt := 67) (pc' := 62) d_Model_stays_59 rfl rfl (fun c59 => ?_) (fun c59 => ?_)
        · try have e59 := bIn c59
          refine VW.iconst (pc' := 68) d_Model_stays_67 rfl (by decide) ?_
          refine VW.goto (pc' := 72) d_Model_stays_68 rfl ?_
          refine VW.pZ (ci := 11) (T := T11) (N := 94) (k := 75) (k' := 75) (ty := ty11) (pc' := 75) d_Model_stays_72 rfl lk_Model_440 in11 tk11 nm11 rfl rfl rfl rfl rfl rfl (by omega) (hM.k rfl) ?_
          refine VW.iload (pc' := 77) d_Model_stays_75 rfl rfl ?_
          refine VW.if_eq (tgt := 106) (pc' := 80) d_Model_stays_77 rfl rfl (fun c77 => ?_) (fun c77 => ?_)
          · try have e77 := bIe c77
            refine VW.iconst (pc' := 107) d_Model_stays_106 rfl (by decide) ?_
            exact VW.iret d_Model_stays_107 rfl rfl (Nat.zero_le _) (Nat.zero_le _) (by first | (refine ex_cong (nul1 (Or.inl c42)) ?_; have q := bI0 (sN (fun z => z.1 c42)); rw [q]; done) | (refine ex_cong (nul1 (Or.inr c49)) ?_; have q := bI0 (sN (fun z => z.2.1 c49)); rw [q]; done) | (refine ex_cong (hFa _ rfl c42 c49 (Or.inl c59)) ?_; have q := bI0 (sN (fun z => z.2.2.1 c77)); rw [q]; done) | (refine ex_cong (hFa _ rfl c42 c49 (Or.inl c59)) ?_; have q := bI0 (sN (fun z => c99 z.2.2.2)); rw [q]; done) | (refine ex_cong (hFa _ rfl c42 c49 (Or.inl c59)) ?_; have q := bI1 (sY ⟨c42, c49, c77, c99⟩); rw [q]; done) | (refine ex_cong (hFa _ rfl c42 c49 (Or.inr c64)) ?_; have q := bI0 (sN (fun z => z.2.2.1 c64)); rw [q]; done) | (refine ex_cong (hFb _ rfl c59 c64) ?_; have q := bI0 (sN (fun z => c99 z.2.2.2)); rw [q]; done) | (refine ex_cong (hFb _ rfl c59 c64) ?_; have q := bI1 (sY ⟨c42, c49, c77, c99⟩); rw [q]; done) | (exfalso; omega))
          · try have e77 := bIn c77
            refine VW.iload_n (pc' := 81) d_Model_stays_80 rfl rfl ?_
            refine VW.iload (pc' := 83) d_Model_stays_81 rfl rfl ?_
            refine VW.if_ne (tgt := 90) (pc' := 86) d_Model_stays_83 rfl rfl (fun c83 => ?_) (fun c83 => ?_)
            · try have e83 := bIn c83
              refine VW.iload (pc' := 92) d_Model_stays_90 rfl rfl ?_
              refine VW.idiv (pc' := 93) d_Model_stays_92 rfl (by omega) (tR c42) ?_
              refine VW.aload_n (pc' := 94) d_Model_stays_93 rfl rfl ?_
              refine VW.gP (ci := 11) (T := T11) (N := 94) (k := 59) (k' := 59) (pc' := 97) d_Model_stays_94 rfl lk_Model_153 in11 rfl rfl rfl rfl (hM.k rfl) (hM.p (r := some 259) 59 rfl rfl) ?_
              refine VW.iload_n (pc' := 98) d_Model_stays_97 rfl rfl ?_
              refine VW.ild (pc' := 99) d_Model_stays_98 rfl (hM.k rfl) (by omega) (by omega) (by first | exact up2_o _ _ _ _ (by decide) | rfl) ?_
              refine VW.icmp_ne (tgt := 106) (pc' := 102) d_Model_stays_99 rfl rfl (fun c99 => ?_) (fun c99 => ?_)
              · refine VW.iconst (pc' := 107) d_Model_stays_106 rfl (by decide) ?_
                exact VW.iret d_Model_stays_107 rfl rfl (Nat.zero_le _) (Nat.zero_le _) (by first | (refine ex_cong (nul1 (Or.inl c42)) ?_; have q := bI0 (sN (fun z => z.1 c42)); rw [q]; done) | (refine ex_cong (nul1 (Or.inr c49)) ?_; have q := bI0 (sN (fun z => z.2.1 c49)); rw [q]; done) | (refine ex_cong (hFa _ rfl c42 c49 (Or.inl c59)) ?_; have q := bI0 (sN (fun z => z.2.2.1 c77)); rw [q]; done) | (refine ex_cong (hFa _ rfl c42 c49 (Or.inl c59)) ?_; have q := bI0 (sN (fun z => c99 z.2.2.2)); rw [q]; done) | (refine ex_cong (hFa _ rfl c42 c49 (Or.inl c59)) ?_; have q := bI1 (sY ⟨c42, c49, c77, c99⟩); rw [q]; done) | (refine ex_cong (hFa _ rfl c42 c49 (Or.inr c64)) ?_; have q := bI0 (sN (fun z => z.2.2.1 c64)); rw [q]; done) | (refine ex_cong (hFb _ rfl c59 c64) ?_; have q := bI0 (sN (fun z => c99 z.2.2.2)); rw [q]; done) | (refine ex_cong (hFb _ rfl c59 c64) ?_; have q := bI1 (sY ⟨c42, c49, c77, c99⟩); rw [q]; done) | (exfalso; omega))
              · refine VW.iconst (pc' := 103) d_Model_stays_102 rfl (by decide) ?_
                refine VW.goto (pc' := 107) d_Model_stays_103 rfl ?_
                exact VW.iret d_Model_stays_107 rfl rfl (Nat.zero_le _) (Nat.zero_le _) (by first | (refine ex_cong (nul1 (Or.inl c42)) ?_; have q := bI0 (sN (fun z => z.1 c42)); rw [q]; done) | (refine ex_cong (nul1 (Or.inr c49)) ?_; have q := bI0 (sN (fun z => z.2.1 c49)); rw [q]; done) | (refine ex_cong (hFa _ rfl c42 c49 (Or.inl c59)) ?_; have q := bI0 (sN (fun z => z.2.2.1 c77)); rw [q]; done) | (refine ex_cong (hFa _ rfl c42 c49 (Or.inl c59)) ?_; have q := bI0 (sN (fun z => c99 z.2.2.2)); rw [q]; done) | (refine ex_cong (hFa _ rfl c42 c49 (Or.inl c59)) ?_; have q := bI1 (sY ⟨c42, c49, c77, c99⟩); rw [q]; done) | (refine ex_cong (hFa _ rfl c42 c49 (Or.inr c64)) ?_; have q := bI0 (sN (fun z => z.2.2.1 c64)); rw [q]; done) | (refine ex_cong (hFb _ rfl c59 c64) ?_; have q := bI0 (sN (fun z => c99 z.2.2.2)); rw [q]; done) | (refine ex_cong (hFb _ rfl c59 c64) ?_; have q := bI1 (sY ⟨c42, c49, c77, c99⟩); rw [q]; done) | (exfalso; omega))
            · try have e83 := bIe c83
              exfalso; omega
        · try have e59 := bIe c59
          refine VW.iload (pc' := 64) d_Model_stays_62 rfl rfl ?_
          refine VW.if_ne (tgt := 71) (pc' := 67) d_Model_stays_64 rfl rfl (fun c64 => ?_) (fun c64 => ?_)
          · try have e64 := bIn c64
            refine VW.iconst (pc' := 72) d_Model_stays_71 rfl (by decide) ?_
            refine VW.pZ (ci := 11) (T := T11) (N := 94) (k := 75) (k' := 75) (ty := ty11) (pc' := 75) d_Model_stays_72 rfl lk_Model_440 in11 tk11 nm11 rfl rfl rfl rfl rfl rfl (by omega) (hM.k rfl) ?_
            refine VW.iload (pc' := 77) d_Model_stays_75 rfl rfl ?_
            refine VW.if_eq (tgt := 106) (pc' := 80) d_Model_stays_77 rfl rfl (fun c77 => ?_) (fun c77 => ?_)
            · try have e77 := bIe c77
              refine VW.iconst (pc' := 107) d_Model_stays_106 rfl (by decide) ?_
              exact VW.iret d_Model_stays_107 rfl rfl (Nat.zero_le _) (Nat.zero_le _) (by first | (refine ex_cong (nul1 (Or.inl c42)) ?_; have q := bI0 (sN (fun z => z.1 c42)); rw [q]; done) | (refine ex_cong (nul1 (Or.inr c49)) ?_; have q := bI0 (sN (fun z => z.2.1 c49)); rw [q]; done) | (refine ex_cong (hFa _ rfl c42 c49 (Or.inl c59)) ?_; have q := bI0 (sN (fun z => z.2.2.1 c77)); rw [q]; done) | (refine ex_cong (hFa _ rfl c42 c49 (Or.inl c59)) ?_; have q := bI0 (sN (fun z => c99 z.2.2.2)); rw [q]; done) | (refine ex_cong (hFa _ rfl c42 c49 (Or.inl c59)) ?_; have q := bI1 (sY ⟨c42, c49, c77, c99⟩); rw [q]; done) | (refine ex_cong (hFa _ rfl c42 c49 (Or.inr c64)) ?_; have q := bI0 (sN (fun z => z.2.2.1 c64)); rw [q]; done) | (refine ex_cong (hFb _ rfl c59 c64) ?_; have q := bI0 (sN (fun z => c99 z.2.2.2)); rw [q]; done) | (refine ex_cong (hFb _ rfl c59 c64) ?_; have q := bI1 (sY ⟨c42, c49, c77, c99⟩); rw [q]; done) | (exfalso; omega))
            · try have e77 := bIn c77
              refine VW.iload_n (pc' := 81) d_Model_stays_80 rfl rfl ?_
              refine VW.iload (pc' := 83) d_Model_stays_81 rfl rfl ?_
              refine VW.if_ne (tgt := 90) (pc' := 86) d_Model_stays_83 rfl rfl (fun c83 => ?_) (fun c83 => ?_)
              · try have e83 := bIn c83
                refine VW.iload (pc' := 92) d_Model_stays_90 rfl rfl ?_
                refine VW.idiv (pc' := 93) d_Model_stays_92 rfl (by omega) (tR c42) ?_
                refine VW.aload_n (pc' := 94) d_Model_stays_93 rfl rfl ?_
                refine VW.gP (ci := 11) (T := T11) (N := 94) (k := 59) (k' := 59) (pc' := 97) d_Model_stays_94 rfl lk_Model_153 in11 rfl rfl rfl rfl (hM.k rfl) (hM.p (r := some 259) 59 rfl rfl) ?_
                refine VW.iload_n (pc' := 98) d_Model_stays_97 rfl rfl ?_
                refine VW.ild (pc' := 99) d_Model_stays_98 rfl (hM.k rfl) (by omega) (by omega) (by first | exact up2_o _ _ _ _ (by decide) | rfl) ?_
                refine VW.icmp_ne (tgt := 106) (pc' := 102) d_Model_stays_99 rfl rfl (fun c99 => ?_) (fun c99 => ?_)
                · refine VW.iconst (pc' := 107) d_Model_stays_106 rfl (by decide) ?_
                  exact VW.iret d_Model_stays_107 rfl rfl (Nat.zero_le _) (Nat.zero_le _) (by first | (refine ex_cong (nul1 (Or.inl c42)) ?_; have q := bI0 (sN (fun z => z.1 c42)); rw [q]; done) | (refine ex_cong (nul1 (Or.inr c49)) ?_; have q := bI0 (sN (fun z => z.2.1 c49)); rw [q]; done) | (refine ex_cong (hFa _ rfl c42 c49 (Or.inl c59)) ?_; have q := bI0 (sN (fun z => z.2.2.1 c77)); rw [q]; done) | (refine ex_cong (hFa _ rfl c42 c49 (Or.inl c59)) ?_; have q := bI0 (sN (fun z => c99 z.2.2.2)); rw [q]; done) | (refine ex_cong (hFa _ rfl c42 c49 (Or.inl c59)) ?_; have q := bI1 (sY ⟨c42, c49, c77, c99⟩); rw [q]; done) | (refine ex_cong (hFa _ rfl c42 c49 (Or.inr c64)) ?_; have q := bI0 (sN (fun z => z.2.2.1 c64)); rw [q]; done) | (refine ex_cong (hFb _ rfl c59 c64) ?_; have q := bI0 (sN (fun z => c99 z.2.2.2)); rw [q]; done) | (refine ex_cong (hFb _ rfl c59 c64) ?_; have q := bI1 (sY ⟨c42, c49, c77, c99⟩); rw [q]; done) | (exfalso; omega))
                · refine VW.iconst (pc' := 103) d_Model_stays_102 rfl (by decide) ?_
                  refine VW.goto (pc' := 107) d_Model_stays_103 rfl ?_
                  exact VW.iret d_Model_stays_107 rfl rfl (Nat.zero_le _) (Nat.zero_le _) (by first | (refine ex_cong (nul1 (Or.inl c42)) ?_; have q := bI0 (sN (fun z => z.1 c42)); rw [q]; done) | (refine ex_cong (nul1 (Or.inr c49)) ?_; have q := bI0 (sN (fun z => z.2.1 c49)); rw [q]; done) | (refine ex_cong (hFa _ rfl c42 c49 (Or.inl c59)) ?_; have q := bI0 (sN (fun z => z.2.2.1 c77)); rw [q]; done) | (refine ex_cong (hFa _ rfl c42 c49 (Or.inl c59)) ?_; have q := bI0 (sN (fun z => c99 z.2.2.2)); rw [q]; done) | (refine ex_cong (hFa _ rfl c42 c49 (Or.inl c59)) ?_; have q := bI1 (sY ⟨c42, c49, c77, c99⟩); rw [q]; done) | (refine ex_cong (hFa _ rfl c42 c49 (Or.inr c64)) ?_; have q := bI0 (sN (fun z => z.2.2.1 c64)); rw [q]; done) | (refine ex_cong (hFb _ rfl c59 c64) ?_; have q := bI0 (sN (fun z => c99 z.2.2.2)); rw [q]; done) | (refine ex_cong (hFb _ rfl c59 c64) ?_; have q := bI1 (sY ⟨c42, c49, c77, c99⟩); rw [q]; done) | (exfalso; omega))
              · try have e83 := bIe c83
                exfalso; omega
          · try have e64 := bIe c64
            refine VW.iconst (pc' := 68) d_Model_stays_67 rfl (by decide) ?_
            refine VW.goto (pc' := 72) d_Model_stays_68 rfl ?_
            refine VW.pZ (ci := 11) (T := T11) (N := 94) (k := 75) (k' := 75) (ty := ty11) (pc' := 75) d_Model_stays_72 rfl lk_Model_440 in11 tk11 nm11 rfl rfl rfl rfl rfl rfl (by omega) (hM.k rfl) ?_
            refine VW.iload (pc' := 77) d_Model_stays_75 rfl rfl ?_
            refine VW.if_eq (tgt := 106) (pc' := 80) d_Model_stays_77 rfl rfl (fun c77 => ?_) (fun c77 => ?_)
            · try have e77 := bIe c77
              refine VW.iconst (pc' := 107) d_Model_stays_106 rfl (by decide) ?_
              exact VW.iret d_Model_stays_107 rfl rfl (Nat.zero_le _) (Nat.zero_le _) (by first | (refine ex_cong (nul1 (Or.inl c42)) ?_; have q := bI0 (sN (fun z => z.1 c42)); rw [q]; done) | (refine ex_cong (nul1 (Or.inr c49)) ?_; have q := bI0 (sN (fun z => z.2.1 c49)); rw [q]; done) | (refine ex_cong (hFa _ rfl c42 c49 (Or.inl c59)) ?_; have q := bI0 (sN (fun z => z.2.2.1 c77)); rw [q]; done) | (refine ex_cong (hFa _ rfl c42 c49 (Or.inl c59)) ?_; have q := bI0 (sN (fun z => c99 z.2.2.2)); rw [q]; done) | (refine ex_cong (hFa _ rfl c42 c49 (Or.inl c59)) ?_; have q := bI1 (sY ⟨c42, c49, c77, c99⟩); rw [q]; done) | (refine ex_cong (hFa _ rfl c42 c49 (Or.inr c64)) ?_; have q := bI0 (sN (fun z => z.2.2.1 c64)); rw [q]; done) | (refine ex_cong (hFb _ rfl c59 c64) ?_; have q := bI0 (sN (fun z => c99 z.2.2.2)); rw [q]; done) | (refine ex_cong (hFb _ rfl c59 c64) ?_; have q := bI1 (sY ⟨c42, c49, c77, c99⟩); rw [q]; done) | (exfalso; omega))
            · try have e77 := bIn c77
              refine VW.iload_n (pc' := 81) d_Model_stays_80 rfl rfl ?_
              refine VW.iload (pc' := 83) d_Model_stays_81 rfl rfl ?_
              refine VW.if_ne (tgt := 90) (pc' := 86) d_Model_stays_83 rfl rfl (fun c83 => ?_) (fun c83 => ?_)
              · try have e83 := bIn c83
                refine VW.iload (pc' := 92) d_Model_stays_90 rfl rfl ?_
                refine VW.idiv (pc' := 93) d_Model_stays_92 rfl (by omega) (tR c42) ?_
                refine VW.aload_n (pc' := 94) d_Model_stays_93 rfl rfl ?_
                refine VW.gP (ci := 11) (T := T11) (N := 94) (k := 59) (k' := 59) (pc' := 97) d_Model_stays_94 rfl lk_Model_153 in11 rfl rfl rfl rfl (hM.k rfl) (hM.p (r := some 259) 59 rfl rfl) ?_
                refine VW.iload_n (pc' := 98) d_Model_stays_97 rfl rfl ?_
                refine VW.ild (pc' := 99) d_Model_stays_98 rfl (hM.k rfl) (by omega) (by omega) (by first | exact up2_o _ _ _ _ (by decide) | rfl) ?_
                refine VW.icmp_ne (tgt := 106) (pc' := 102) d_Model_stays_99 rfl rfl (fun c99 => ?_) (fun c99 => ?_)
                · refine VW.iconst (pc' := 107) d_Model_stays_106 rfl (by decide) ?_
                  exact VW.iret d_Model_stays_107 rfl rfl (Nat.zero_le _) (Nat.zero_le _) (by first | (refine ex_cong (nul1 (Or.inl c42)) ?_; have q := bI0 (sN (fun z => z.1 c42)); rw [q]; done) | (refine ex_cong (nul1 (Or.inr c49)) ?_; have q := bI0 (sN (fun z => z.2.1 c49)); rw [q]; done) | (refine ex_cong (hFa _ rfl c42 c49 (Or.inl c59)) ?_; have q := bI0 (sN (fun z => z.2.2.1 c77)); rw [q]; done) | (refine ex_cong (hFa _ rfl c42 c49 (Or.inl c59)) ?_; have q := bI0 (sN (fun z => c99 z.2.2.2)); rw [q]; done) | (refine ex_cong (hFa _ rfl c42 c49 (Or.inl c59)) ?_; have q := bI1 (sY ⟨c42, c49, c77, c99⟩); rw [q]; done) | (refine ex_cong (hFa _ rfl c42 c49 (Or.inr c64)) ?_; have q := bI0 (sN (fun z => z.2.2.1 c64)); rw [q]; done) | (refine ex_cong (hFb _ rfl c59 c64) ?_; have q := bI0 (sN (fun z => c99 z.2.2.2)); rw [q]; done) | (refine ex_cong (hFb _ rfl c59 c64) ?_; have q := bI1 (sY ⟨c42, c49, c77, c99⟩); rw [q]; done) | (exfalso; omega))
                · refine VW.iconst (pc' := 103) d_Model_stays_102 rfl (by decide) ?_
                  refine VW.goto (pc' := 107) d_Model_stays_103 rfl ?_
                  exact VW.iret d_Model_stays_107 rfl rfl (Nat.zero_le _) (Nat.zero_le _) (by first | (refine ex_cong (nul1 (Or.inl c42)) ?_; have q := bI0 (sN (fun z => z.1 c42)); rw [q]; done) | (refine ex_cong (nul1 (Or.inr c49)) ?_; have q := bI0 (sN (fun z => z.2.1 c49)); rw [q]; done) | (refine ex_cong (hFa _ rfl c42 c49 (Or.inl c59)) ?_; have q := bI0 (sN (fun z => z.2.2.1 c77)); rw [q]; done) | (refine ex_cong (hFa _ rfl c42 c49 (Or.inl c59)) ?_; have q := bI0 (sN (fun z => c99 z.2.2.2)); rw [q]; done) | (refine ex_cong (hFa _ rfl c42 c49 (Or.inl c59)) ?_; have q := bI1 (sY ⟨c42, c49, c77, c99⟩); rw [q]; done) | (refine ex_cong (hFa _ rfl c42 c49 (Or.inr c64)) ?_; have q := bI0 (sN (fun z => z.2.2.1 c64)); rw [q]; done) | (refine ex_cong (hFb _ rfl c59 c64) ?_; have q := bI0 (sN (fun z => c99 z.2.2.2)); rw [q]; done) | (refine ex_cong (hFb _ rfl c59 c64) ?_; have q := bI1 (sY ⟨c42, c49, c77, c99⟩); rw [q]; done) | (exfalso; omega))
              · try have e83 := bIe c83
                exfalso; omega
      · refine VW.iconst (pc' := 53) d_Model_stays_52 rfl (by decide) ?_
        exact VW.iret d_Model_stays_53 rfl rfl (Nat.zero_le _) (Nat.zero_le _) (by first | (refine ex_cong (nul1 (Or.inl c42)) ?_; have q := bI0 (sN (fun z => z.1 c42)); rw [q]; done) | (refine ex_cong (nul1 (Or.inr c49)) ?_; have q := bI0 (sN (fun z => z.2.1 c49)); rw [q]; done) | (refine ex_cong (hFa _ rfl c42 c49 (Or.inl c59)) ?_; have q := bI0 (sN (fun z => z.2.2.1 c77)); rw [q]; done) | (refine ex_cong (hFa _ rfl c42 c49 (Or.inl c59)) ?_; have q := bI0 (sN (fun z => c99 z.2.2.2)); rw [q]; done) | (refine ex_cong (hFa _ rfl c42 c49 (Or.inl c59)) ?_; have q := bI1 (sY ⟨c42, c49, c77, c99⟩); rw [q]; done) | (refine ex_cong (hFa _ rfl c42 c49 (Or.inr c64)) ?_; have q := bI0 (sN (fun z => z.2.2.1 c64)); rw [q]; done) | (refine ex_cong (hFb _ rfl c59 c64) ?_; have q := bI0 (sN (fun z => c99 z.2.2.2)); rw [q]; done) | (refine ex_cong (hFb _ rfl c59 c64) ?_; have q := bI1 (sY ⟨c42, c49, c77, c99⟩); rw [q]; done) | (exfalso; omega))
  have comp : I 256 x ≠ 3 → ∀ y : Int, (∀ z, stayP (I 256 x) (I 257 x) (I 258 x) (I 259 x) (I 260 x) z = stayP (I 256 x) (I 257 x) (I 258 x) (I 259 x) (I 260 x) z) → (cmp3 (I 270 (p + I 257 x)) (I 258 x) y = (if I 260 x = 0 then 1 else 0) ↔ stayP (I 256 x) (I 257 x) (I 258 x) (I 259 x) (I 260 x) (rowAt I 270 p w)) → VW m_Model_stays false (rmv 1 23) (ex K P J (up2 I 100 75 (bI (I 100 75 = 1 ∨ stayF (I 256 x) (I 257 x) (I 258 x) (rowAt I 270 p w)))) (.inl (some (vI (bI (stayP (I 256 x) (I 257 x) (I 258 x) (I 259 x) (I 260 x) (rowAt I 270 p w))))))) K P J I 0 0 140 [(0, vR (some 100)), (1, vI x), (2, vI p), (3, vI (I 270 (p + I 257 x)))] [vI y] := by
    intro h3 y _ hy
    have eI := noF h3
    clear nul noF ratio cB cC
    refine VW.istore (pc' := 142) d_Model_stays_140 rfl rfl ?_
    refine VW.iload_n (pc' := 143) d_Model_stays_142 rfl rfl ?_
    refine VW.aload_n (pc' := 144) d_Model_stays_143 rfl rfl ?_
    refine VW.gP (ci := 11) (T := T11) (N := 94) (k := 58) (k' := 58) (pc' := 147) d_Model_stays_144 rfl lk_Model_150 in11 rfl rfl rfl rfl (hM.k rfl) (hM.p (r := some 258) 58 rfl rfl) ?_
    refine VW.iload_n (pc' := 148) d_Model_stays_147 rfl rfl ?_
    refine VW.ild (pc' := 149) d_Model_stays_148 rfl (hM.k rfl) (by omega) (by omega) (by first | assumption | (simp [up2] <;> rfl) | rfl) ?_
    refine VW.iload (pc' := 151) d_Model_stays_149 rfl rfl ?_
    refine VW.cS (pc' := 154) d_Model_stays_151 rfl ms_Model_compares lk_Model_281 rfl rfl rfl (Nat.le_refl _) (Nat.le_refl _) (sp_Model_compares) rfl rfl ?_
    refine VW.aload_n (pc' := 155) d_Model_stays_154 rfl rfl ?_
    refine VW.gP (ci := 11) (T := T11) (N := 94) (k := 60) (k' := 60) (pc' := 158) d_Model_stays_155 rfl lk_Model_156 in11 rfl rfl rfl rfl (hM.k rfl) (hM.p (r := some 260) 60 rfl rfl) ?_
    refine VW.iload_n (pc' := 159) d_Model_stays_158 rfl rfl ?_
    refine VW.zld (pc' := 160) d_Model_stays_159 rfl (hM.k rfl) (by omega) (by omega) (by first | assumption | (simp [up2] <;> rfl) | rfl) ?_
    refine VW.if_eq (tgt := 167) (pc' := 163) d_Model_stays_160 rfl rfl (fun c160 => ?_) (fun c160 => ?_)
    · try have e160 := bIe c160
      refine VW.iconst (pc' := 168) d_Model_stays_167 rfl (by decide) ?_
      refine VW.icmp_ne (tgt := 175) (pc' := 171) d_Model_stays_168 rfl rfl (fun c168 => ?_) (fun c168 => ?_)
      · refine VW.iconst (pc' := 176) d_Model_stays_175 rfl (by decide) ?_
        exact VW.iret d_Model_stays_176 rfl rfl (Nat.zero_le _) (Nat.zero_le _) (by first | (refine ex_cong eI ?_; have q := bI1 (hy.1 (by rw [if_pos c160]; exact c168)); rw [q]; done) | (refine ex_cong eI ?_; have q := bI1 (hy.1 (by rw [if_neg c160]; exact c168)); rw [q]; done) | (refine ex_cong eI ?_; have q := bI0 (fun q => c168 (by have := hy.2 q; rw [if_pos c160] at this; exact this)); rw [q]; done) | (refine ex_cong eI ?_; have q := bI0 (fun q => c168 (by have := hy.2 q; rw [if_neg c160] at this; exact this)); rw [q]; done))
      · refine VW.iconst (pc' := 172) d_Model_stays_171 rfl (by decide) ?_
        refine VW.goto (pc' := 176) d_Model_stays_172 rfl ?_
        exact VW.iret d_Model_stays_176 rfl rfl (Nat.zero_le _) (Nat.zero_le _) (by first | (refine ex_cong eI ?_; have q := bI1 (hy.1 (by rw [if_pos c160]; exact c168)); rw [q]; done) | (refine ex_cong eI ?_; have q := bI1 (hy.1 (by rw [if_neg c160]; exact c168)); rw [q]; done) | (refine ex_cong eI ?_; have q := bI0 (fun q => c168 (by have := hy.2 q; rw [if_pos c160] at this; exact this)); rw [q]; done) | (refine ex_cong eI ?_; have q := bI0 (fun q => c168 (by have := hy.2 q; rw [if_neg c160] at this; exact this)); rw [q]; done))
    · try have e160 := bIn c160
      refine VW.iconst (pc' := 164) d_Model_stays_163 rfl (by decide) ?_
      refine VW.goto (pc' := 168) d_Model_stays_164 rfl ?_
      refine VW.icmp_ne (tgt := 175) (pc' := 171) d_Model_stays_168 rfl rfl (fun c168 => ?_) (fun c168 => ?_)
      · refine VW.iconst (pc' := 176) d_Model_stays_175 rfl (by decide) ?_
        exact VW.iret d_Model_stays_176 rfl rfl (Nat.zero_le _) (Nat.zero_le _) (by first | (refine ex_cong eI ?_; have q := bI1 (hy.1 (by rw [if_pos c160]; exact c168)); rw [q]; done) | (refine ex_cong eI ?_; have q := bI1 (hy.1 (by rw [if_neg c160]; exact c168)); rw [q]; done) | (refine ex_cong eI ?_; have q := bI0 (fun q => c168 (by have := hy.2 q; rw [if_pos c160] at this; exact this)); rw [q]; done) | (refine ex_cong eI ?_; have q := bI0 (fun q => c168 (by have := hy.2 q; rw [if_neg c160] at this; exact this)); rw [q]; done))
      · refine VW.iconst (pc' := 172) d_Model_stays_171 rfl (by decide) ?_
        refine VW.goto (pc' := 176) d_Model_stays_172 rfl ?_
        exact VW.iret d_Model_stays_176 rfl rfl (Nat.zero_le _) (Nat.zero_le _) (by first | (refine ex_cong eI ?_; have q := bI1 (hy.1 (by rw [if_pos c160]; exact c168)); rw [q]; done) | (refine ex_cong eI ?_; have q := bI1 (hy.1 (by rw [if_neg c160]; exact c168)); rw [q]; done) | (refine ex_cong eI ?_; have q := bI0 (fun q => c168 (by have := hy.2 q; rw [if_pos c160] at this; exact this)); rw [q]; done) | (refine ex_cong eI ?_; have q := bI0 (fun q => c168 (by have := hy.2 q; rw [if_neg c160] at this; exact this)); rw [q]; done))
  refine VW.aload_n (pc' := 1) d_Model_stays_0 rfl rfl ?_
  refine VW.gP (ci := 11) (T := T11) (N := 94) (k := 70) (k' := 70) (pc' := 4) d_Model_stays_1 rfl lk_Model_178 in11 rfl rfl rfl rfl (hM.k rfl) (hM.p (r := some 270) 70 rfl rfl) ?_
  refine VW.iload_n (pc' := 5) d_Model_stays_4 rfl rfl ?_
  refine VW.aload_n (pc' := 6) d_Model_stays_5 rfl rfl ?_
  refine VW.gP (ci := 11) (T := T11) (N := 94) (k := 57) (k' := 57) (pc' := 9) d_Model_stays_6 rfl lk_Model_147 in11 rfl rfl rfl rfl (hM.k rfl) (hM.p (r := some 257) 57 rfl rfl) ?_
  refine VW.iload_n (pc' := 10) d_Model_stays_9 rfl rfl ?_
  refine VW.ild (pc' := 11) d_Model_stays_10 rfl (hM.k rfl) (by omega) (by omega) (rfl) ?_
  refine VW.iadd (pc' := 12) d_Model_stays_11 rfl (by omega) ?_
  refine VW.ild (pc' := 13) d_Model_stays_12 rfl (hM.k rfl) (by omega) (by omega) (rfl) ?_
  refine VW.istore_n (pc' := 14) d_Model_stays_13 rfl rfl ?_
  refine VW.aload_n (pc' := 15) d_Model_stays_14 rfl rfl ?_
  refine VW.gP (ci := 11) (T := T11) (N := 94) (k := 56) (k' := 56) (pc' := 18) d_Model_stays_15 rfl lk_Model_144 in11 rfl rfl rfl rfl (hM.k rfl) (hM.p (r := some 256) 56 rfl rfl) ?_
  refine VW.iload_n (pc' := 19) d_Model_stays_18 rfl rfl ?_
  refine VW.ild (pc' := 20) d_Model_stays_19 rfl (hM.k rfl) (by omega) (by omega) (rfl) ?_
  refine VW.iconst (pc' := 21) d_Model_stays_20 rfl (by decide) ?_
  refine VW.icmp_ne (tgt := 108) (pc' := 24) d_Model_stays_21 rfl rfl (fun c21 => ?_) (fun c21 => ?_)
  · refine VW.aload_n (pc' := 109) d_Model_stays_108 rfl rfl ?_
    refine VW.gP (ci := 11) (T := T11) (N := 94) (k := 56) (k' := 56) (pc' := 112) d_Model_stays_109 rfl lk_Model_144 in11 rfl rfl rfl rfl (hM.k rfl) (hM.p (r := some 256) 56 rfl rfl) ?_
    refine VW.iload_n (pc' := 113) d_Model_stays_112 rfl rfl ?_
    refine VW.ild (pc' := 114) d_Model_stays_113 rfl (hM.k rfl) (by omega) (by omega) (rfl) ?_
    refine VW.iconst (pc' := 115) d_Model_stays_114 rfl (by decide) ?_
    refine VW.icmp_ne (tgt := 127) (pc' := 118) d_Model_stays_115 rfl rfl (fun c115 => ?_) (fun c115 => ?_)
    · have cC' := cC c21 c115
      refine VW.aload_n (pc' := 128) d_Model_stays_127 rfl rfl ?_
      refine VW.gP (ci := 11) (T := T11) (N := 94) (k := 70) (k' := 70) (pc' := 131) d_Model_stays_128 rfl lk_Model_178 in11 rfl rfl rfl rfl (hM.k rfl) (hM.p (r := some 270) 70 rfl rfl) ?_
      refine VW.iload_n (pc' := 132) d_Model_stays_131 rfl rfl ?_
      refine VW.aload_n (pc' := 133) d_Model_stays_132 rfl rfl ?_
      refine VW.gP (ci := 11) (T := T11) (N := 94) (k := 59) (k' := 59) (pc' := 136) d_Model_stays_133 rfl lk_Model_153 in11 rfl rfl rfl rfl (hM.k rfl) (hM.p (r := some 259) 59 rfl rfl) ?_
      refine VW.iload_n (pc' := 137) d_Model_stays_136 rfl rfl ?_
      refine VW.ild (pc' := 138) d_Model_stays_137 rfl (hM.k rfl) (by omega) (by omega) (rfl) ?_
      refine VW.iadd (pc' := 139) d_Model_stays_138 rfl (by omega) ?_
      refine VW.ild (pc' := 140) d_Model_stays_139 rfl (hM.k rfl) (by omega) (by omega) (rfl) ?_
      refine VW.nrm ?_
      first
        | exact comp c21 _ (fun _ => rfl) ⟨fun z => Or.inr (Or.inl ⟨c21, c115, by rw [eA]; exact z⟩), fun z => by rcases z with z | z | z; exact absurd z.1 c21; rw [← eA]; exact z.2.2; exact absurd c115 z.2.1⟩
        | exact comp c21 _ (fun _ => rfl) ⟨fun z => Or.inr (Or.inr ⟨c21, c115, by rw [eA, nth_rowAt (cC c21 c115).1 (cC c21 c115).2]; exact z⟩), fun z => by rcases z with z | z | z; exact absurd z.1 c21; exact absurd z.2.1 c115; rw [← eA, ← nth_rowAt (I := I) (a := 270) (b := p) (cC c21 c115).1 (cC c21 c115).2]; exact z.2.2⟩
    · refine VW.aload_n (pc' := 119) d_Model_stays_118 rfl rfl ?_
      refine VW.gP (ci := 11) (T := T11) (N := 94) (k := 59) (k' := 59) (pc' := 122) d_Model_stays_119 rfl lk_Model_153 in11 rfl rfl rfl rfl (hM.k rfl) (hM.p (r := some 259) 59 rfl rfl) ?_
      refine VW.iload_n (pc' := 123) d_Model_stays_122 rfl rfl ?_
      refine VW.ild (pc' := 124) d_Model_stays_123 rfl (hM.k rfl) (by omega) (by omega) (rfl) ?_
      refine VW.goto (pc' := 140) d_Model_stays_124 rfl ?_
      refine VW.nrm ?_
      first
        | exact comp c21 _ (fun _ => rfl) ⟨fun z => Or.inr (Or.inl ⟨c21, c115, by rw [eA]; exact z⟩), fun z => by rcases z with z | z | z; exact absurd z.1 c21; rw [← eA]; exact z.2.2; exact absurd c115 z.2.1⟩
        | exact comp c21 _ (fun _ => rfl) ⟨fun z => Or.inr (Or.inr ⟨c21, c115, by rw [eA, nth_rowAt (cC c21 c115).1 (cC c21 c115).2]; exact z⟩), fun z => by rcases z with z | z | z; exact absurd z.1 c21; exact absurd z.2.1 c115; rw [← eA, ← nth_rowAt (I := I) (a := 270) (b := p) (cC c21 c115).1 (cC c21 c115).2]; exact z.2.2⟩
  · refine VW.nrm ?_
    exact ratio c21
end
