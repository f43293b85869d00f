/-! the law's walk: what each case shares -/
section
variable {M M2 : MD} {R : Room} {Q : PE} {K : KT} {P : PT} {J I : IT} {cs ns : Nat} {as bs : List AV}
/-- what was made is within the room -/
theorem SpE.lim (h : SpE M false R Q K P J I as) : SpE M false R (fun r K1 P1 J1 I1 k n => (k ≤ R.cells ∧ n ≤ R.slots) ∧ ∃ k0 n0, k ≤ k0 ∧ n ≤ n0 ∧ Q r K1 P1 J1 I1 k0 n0) K P J I as := by
  intro l hst D ad dom sz hwf has
  have h0 := h l hst D ad dom sz hwf has
  have hn : ∀ a st o t L, FrameEnd st o t L R.cells R.slots → QNE Q D ad K sz a st o t → QNE (fun r K1 P1 J1 I1 k n => (k ≤ R.cells ∧ n ≤ R.slots) ∧ ∃ k0 n0, k ≤ k0 ∧ n ≤ n0 ∧ Q r K1 P1 J1 I1 k0 n0) D ad K sz a st o t := by
    intro a st o t L hF ⟨k, n, hh, ⟨⟨r, K', P', J', I', ad', dom', q1, q2, q3⟩, q4⟩⟩
    have h2 := HC.of hF.2.2
    have u1 : t.heap.size ≤ st.heap.size + min k R.cells := by
      have u := hh.1
      have v := h2.1
      omega
    have u2 : ((t.heap.toList.drop st.heap.size).map (·.slots.size)).sum ≤ min n R.slots := by
      have u := hh.2.1
      have v := h2.2.1
      omega
    exact ⟨min k R.cells, min n R.slots, ⟨u1, u2, hh.2.2⟩, ⟨⟨r, K', P', J', I', ad', dom', q1, ⟨⟨Nat.min_le_right _ _, Nat.min_le_right _ _⟩, k, n, Nat.min_le_left _ _, Nat.min_le_left _ _, q2⟩, q3⟩, q4⟩⟩
  intro p e ha hc hk s m args below hs happ hP _
  obtain ⟨n, o, h1, h2, h3, h4, L, h5, h6⟩ := (show Met l M.1 (wsM M) R _ _ R.cells R.slots _ from h0) p e ha hc hk s m args below hs happ hP trivial
  exact ⟨n, o, h1, h2, h3, hn _ _ _ _ L h5 h4, L, h5, h6⟩
end
section
variable {M : MD} {x : Bool} {R : Room} {Q : PE} {K : KT} {P : PT} {J I : IT} {cs n pc pc' : Nat} {L : List (Nat × AV)} {S : List AV}
/-- an int of the script -/
theorem VE.sld {o N : Nat} {z : Int} (d : decode M.2.1 pc = .ok (.iaload, 1)) (hp : pc + 1 = pc') (ho : K o = some (14, N)) (h0 : 0 ≤ z) (h1 : z < N) (kk : VE M x R Q K P J I cs n pc' L (vI (I o z) :: S)) : VE M x R Q K P J I cs n pc L (vI z :: vR (some o) :: S) := by
  subst hp
  intro p l e s m args below meth c D ad0 ad K0 dom H locs ls X hl
  obtain ⟨-, b2, b3, b4⟩ := X.2.2.2.2.2.2.1.2.1.2.2.1 o N ho
  obtain ⟨-, c1, c2, c3⟩ := X.2.2.1.2.2.2
  have wz : inR z := X.2.2.2.2.1.hd
  have ez : ((Int32.ofInt z).toNatClampNeg : Int) = z := by rw [i32_nat wz]; omega
  have ea : cv ad (vR (some o)) = .ref D.2.2.2.2.1 := by
    show Value.ref (ad o) = _
    rw [b2]
  rw [List.map_cons, List.map_cons, ea]
  refine va_sld X.1.1 X.1.2.1 c1 c2 c3 X.2.2.2.2.2.2.2.1 (i := Int32.ofInt z) (by rw [← b3]; exact i32_in wz h0 h1) d ?_
  rw [← b4, ez]
  exact kk p l e s m args below meth c D ad0 ad K0 dom H locs ls (X.re (WFs.cons (X.2.2.2.1.1 o z) X.2.2.2.2.1.tl.tl) X.2.2.2.2.2.1) hl
/-- the script's length -/
theorem VE.slen {o N : Nat} (d : decode M.2.1 pc = .ok (.arraylength, 1)) (hp : pc + 1 = pc') (ho : K o = some (14, N)) (hN : (N : Int) ≤ 2147483647) (kk : VE M x R Q K P J I cs n pc' L (vI (N : Int) :: S)) : VE M x R Q K P J I cs n pc L (vR (some o) :: S) := by
  subst hp
  intro p l e s m args below meth c D ad0 ad K0 dom H locs ls X hl
  obtain ⟨-, b2, b3, -⟩ := X.2.2.2.2.2.2.1.2.1.2.2.1 o N ho
  obtain ⟨-, c1, c2, c3⟩ := X.2.2.1.2.2.2
  have ea : cv ad (vR (some o)) = .ref D.2.2.2.2.1 := by
    show Value.ref (ad o) = _
    rw [b2]
  rw [List.map_cons, ea]
  refine va_slen X.1.1 X.1.2.1 c1 c2 c3 X.2.2.2.2.2.2.2.1 d ?_
  rw [← b3]
  exact kk p l e s m args below meth c D ad0 ad K0 dom H locs ls (X.re (WFs.cons (show inR (N : Int) from ⟨by omega, hN⟩) X.2.2.2.2.1.tl) X.2.2.2.2.2.1) hl
end
section
variable {Q : PE} {K : KT} {P : PT} {J I : IT} {c cs ns p pc pc' N Lg : Nat} {i k kc b z off : Int} {xs : Int → Int} {Lo : List (Nat × AV)} {St : List AV}
theorem LI.mono {cs' ns' : Nat} (h : LI c Lg xs K P J I cs ns) (h1 : cs' ≤ cs) (h2 : ns' ≤ ns) : LI c Lg xs K P J I cs' ns' := by
  obtain ⟨hL, n, N, g, lq, lv, mv, q, nq, lqq, tn, nv, l3, l4, w, M, a1, a2, a3, a4, a5, a6, a7, a8⟩ := h
  refine ⟨hL, n, N, g, lq, lv, mv, q, nq, lqq, tn, nv, l3, l4, w, M, a1, a2, a3, a4, a5, a6, a7, ?_⟩
  unfold RmR at *
  omega
/-- the law's locals -/
abbrev Lw (i : Int) : List (Nat × AV) := [(0, vR (some 49)), (1, vR (some 1000)), (2, vR (some 100)), (3, vR (some 50)), (4, vI i)]
abbrev Lw5 (i kc : Int) : List (Nat × AV) := [(0, vR (some 49)), (1, vR (some 1000)), (2, vR (some 100)), (3, vR (some 50)), (4, vI i), (5, vI kc)]
abbrev VL (Q : PE) (K : KT) (P : PT) (J I : IT) (cs ns : Nat) (pc : Nat) (Lo : List (Nat × AV)) (St : List AV) : Prop := VE m_Law_law false room_1 Q K P J I cs ns pc Lo St
/-- an int of the script -/
theorem VL.arg (d0 : decode m_Law_law.2.1 pc = .ok (.aload_n 0, 1)) (d1 : decode m_Law_law.2.1 (pc + 1) = .ok (.iload 4, 2)) (d2 : decode m_Law_law.2.1 (pc + 3) = .ok (.iconst k, 1)) (d3 : decode m_Law_law.2.1 (pc + 4) = .ok (.iadd, 1)) (d4 : decode m_Law_law.2.1 (pc + 5) = .ok (.iaload, 1)) (hp : pc + 6 = pc') (h0 : lkp Lo 0 = some (vR (some 49))) (h4 : lkp Lo 4 = some (vI i)) (hK : LwK K P I N xs) (hk : 0 ≤ k ∧ k ≤ 5) (hi : (0 ≤ i ∧ i + 6 ≤ N) ∧ N ≤ 3072)
    (kk : VL Q K P J I cs ns pc' Lo (vI (xs (i + k)) :: St)) : VL Q K P J I cs ns pc Lo St := by
  subst hp
  refine VE.aload_n (pc' := pc + 1) d0 rfl h0 ?_
  refine VE.iload (pc' := pc + 3) d1 rfl h4 ?_
  refine VE.iconst (pc' := pc + 4) d2 rfl ⟨by omega, by omega⟩ ?_
  refine VE.iadd (pc' := pc + 5) d3 rfl ⟨by omega, by omega⟩ ?_
  refine VE.sld (pc' := pc + 6) d4 rfl hK.2.2.2.1 (by omega) (by omega) ?_
  rw [hK.2.2.2.2]
  exact kk
/-- an int of the script, taken as a truth -/
noncomputable def bz (z : Int) : Int := @ite _ (z = 0) (Classical.propDecidable _) 0 1
theorem bz_01 : bz z = 0 ∨ bz z = 1 := by
  unfold bz
  by_cases h : z = 0
  · exact Or.inl (if_pos h)
  · exact Or.inr (if_neg h)
theorem VL.barg (d0 : decode m_Law_law.2.1 pc = .ok (.ifCond .eq 7, 3)) (d1 : decode m_Law_law.2.1 (pc + 3) = .ok (.iconst 1, 1)) (d2 : decode m_Law_law.2.1 (pc + 4) = .ok (.goto 4, 3)) (d3 : decode m_Law_law.2.1 (pc + 7) = .ok (.iconst 0, 1)) (hp : pc + 8 = pc') (kk : VL Q K P J I cs ns pc' Lo (vI (bz z) :: St)) : VL Q K P J I cs ns pc Lo (vI z :: St) := by
  subst hp
  unfold bz at kk
  refine VE.if_eq (tgt := pc + 7) (pc' := pc + 3) d0 (by omega) rfl (fun e => ?_) (fun e => ?_)
  · rw [if_pos e] at kk
    exact VE.iconst (pc' := pc + 8) d3 rfl ⟨by decide, by decide⟩ kk
  · rw [if_neg e] at kk
    refine VE.iconst (pc' := pc + 4) d1 rfl ⟨by decide, by decide⟩ ?_
    exact VE.goto (pc' := pc + 8) d2 (by omega) kk
/-- behind the reference's call: what it threw, and its answer -/
theorem law_tail (d0 : decode m_Law_law.2.1 p = .ok (.istore 6, 2)) (d1 : decode m_Law_law.2.1 (p + 2) = .ok (.aload_n 2, 1)) (d2 : decode m_Law_law.2.1 (p + 3) = .ok (.invokevirtual 160, 3)) (d3 : decode m_Law_law.2.1 (p + 6) = .ok (.iload 5, 2)) (d4 : decode m_Law_law.2.1 (p + 8) = .ok (.if_icmp .eq 5, 3)) (d5 : decode m_Law_law.2.1 (p + 13) = .ok (.iload 5, 2)) (d6 : decode m_Law_law.2.1 (p + 15) = .ok (.ifCond .ne 15, 3)) (d7 : decode m_Law_law.2.1 (p + 18) = .ok (.aload_n 3, 1)) (d8 : decode m_Law_law.2.1 (p + 19) = .ok (.iconst 0, 1)) (d9 : decode m_Law_law.2.1 (p + 20) = .ok (.laload, 1)) (d10 : decode m_Law_law.2.1 (p + 21) = .ok (.iload 6, 2)) (d11 : decode m_Law_law.2.1 (p + 23) = .ok (.i2l, 1)) (d12 : decode m_Law_law.2.1 (p + 24) = .ok (.lcmp, 1)) (d13 : decode m_Law_law.2.1 (p + 25) = .ok (.ifCond .eq 5, 3)) (d14 : decode m_Law_law.2.1 (p + 30) = .ok (.goto off, 3)) (ho : (p : Int) + 30 + off = 3229)
    (hK : LwK K P I N xs) (h93 : I 100 93 = kc) (hb : kc = 0 → J 50 0 = b) (hc : cs ≤ 603072 ∧ ns ≤ 7207018) (nx : VL Q K P J I cs ns 3229 (Lw i) []) : VL Q K P J I cs ns p (Lw5 i kc) [vI b] := by
  refine VE.istore (pc' := p + 2) d0 rfl rfl ?_
  refine VE.aload_n (o := 100) (pc' := p + 3) d1 rfl rfl ?_
  refine VE.cV (ci := 11) (T := T11) (N := 94) (pc' := p + 6) d2 rfl mv_Model_thrown lk_Law_160 rfl (hK.1.1.k rfl) rfl rfl rfl (by show cs + 0 ≤ 603072; omega) (by show ns + 0 ≤ 7207018; omega) (sp_Model_thrown hK.1.1) rfl rfl ?_
  refine VE.iload (z := kc) (pc' := p + 8) d3 rfl rfl ?_
  have nx' : VL Q K P J I cs ns (p + 30) [(6, vI b), (0, vR (some 49)), (1, vR (some 1000)), (2, vR (some 100)), (3, vR (some 50)), (4, vI i), (5, vI kc)] [] := by
    refine VE.goto (pc' := 3229) d14 (by omega) ?_
    exact VE.pick [0, 1, 2, 3, 4] nx
  refine VE.icmp_eq (tgt := p + 13) (pc' := p + 11) d4 (by omega) rfl (fun _ => ?_) (fun e => absurd h93 e)
  refine VE.iload (z := kc) (pc' := p + 15) d5 rfl rfl ?_
  refine VE.if_ne (tgt := p + 30) (pc' := p + 18) d6 (by omega) rfl (fun _ => nx') (fun e => ?_)
  refine VE.aload_n (o := 50) (pc' := p + 19) d7 rfl rfl ?_
  refine VE.iconst (pc' := p + 20) d8 rfl ⟨by decide, by decide⟩ ?_
  refine VE.lld (N := 1) (v := b) (pc' := p + 21) d9 rfl hK.2.2.1 (by decide) (by decide) (hb e) ?_
  refine VE.iload (z := b) (pc' := p + 23) d10 rfl rfl ?_
  refine VE.i2l (pc' := p + 24) d11 rfl ?_
  refine VE.lcmp (pc' := p + 25) d12 rfl ?_
  rw [if_neg (Int.lt_irrefl b), if_pos rfl]
  exact VE.if_eq (tgt := p + 30) (pc' := p + 28) d13 (by omega) rfl (fun _ => nx') (fun e => absurd rfl e)
/-- the same of a truth -/
theorem law_tailB (d0 : decode m_Law_law.2.1 p = .ok (.istore 6, 2)) (d1 : decode m_Law_law.2.1 (p + 2) = .ok (.aload_n 2, 1)) (d2 : decode m_Law_law.2.1 (p + 3) = .ok (.invokevirtual 160, 3)) (d3 : decode m_Law_law.2.1 (p + 6) = .ok (.iload 5, 2)) (d4 : decode m_Law_law.2.1 (p + 8) = .ok (.if_icmp .eq 5, 3)) (d5 : decode m_Law_law.2.1 (p + 13) = .ok (.iload 5, 2)) (d6 : decode m_Law_law.2.1 (p + 15) = .ok (.ifCond .ne 22, 3)) (d7 : decode m_Law_law.2.1 (p + 18) = .ok (.aload_n 3, 1)) (d8 : decode m_Law_law.2.1 (p + 19) = .ok (.iconst 0, 1)) (d9 : decode m_Law_law.2.1 (p + 20) = .ok (.laload, 1)) (d10 : decode m_Law_law.2.1 (p + 21) = .ok (.iload 6, 2)) (d11 : decode m_Law_law.2.1 (p + 23) = .ok (.ifCond .eq 7, 3)) (da : decode m_Law_law.2.1 (p + 26) = .ok (.lconst 1, 1)) (db : decode m_Law_law.2.1 (p + 27) = .ok (.goto 4, 3)) (dc : decode m_Law_law.2.1 (p + 30) = .ok (.lconst 0, 1)) (d12 : decode m_Law_law.2.1 (p + 31) = .ok (.lcmp, 1)) (d13 : decode m_Law_law.2.1 (p + 32) = .ok (.ifCond .eq 5, 3)) (d14 : decode m_Law_law.2.1 (p + 37) = .ok (.goto off, 3)) (ho : (p : Int) + 37 + off = 3229)
    (hK : LwK K P I N xs) (h93 : I 100 93 = kc) (hb : kc = 0 → J 50 0 = b) (h01 : kc = 0 → b = 0 ∨ b = 1) (hc : cs ≤ 603072 ∧ ns ≤ 7207018) (nx : VL Q K P J I cs ns 3229 (Lw i) []) : VL Q K P J I cs ns p (Lw5 i kc) [vI b] := by
  refine VE.istore (pc' := p + 2) d0 rfl rfl ?_
  refine VE.aload_n (o := 100) (pc' := p + 3) d1 rfl rfl ?_
  refine VE.cV (ci := 11) (T := T11) (N := 94) (pc' := p + 6) d2 rfl mv_Model_thrown lk_Law_160 rfl (hK.1.1.k rfl) rfl rfl rfl (by show cs + 0 ≤ 603072; omega) (by show ns + 0 ≤ 7207018; omega) (sp_Model_thrown hK.1.1) rfl rfl ?_
  refine VE.iload (z := kc) (pc' := p + 8) d3 rfl rfl ?_
  have nx' : VL Q K P J I cs ns (p + 37) [(6, vI b), (0, vR (some 49)), (1, vR (some 1000)), (2, vR (some 100)), (3, vR (some 50)), (4, vI i), (5, vI kc)] [] := by
    refine VE.goto (pc' := 3229) d14 (by omega) ?_
    exact VE.pick [0, 1, 2, 3, 4] nx
  refine VE.icmp_eq (tgt := p + 13) (pc' := p + 11) d4 (by omega) rfl (fun _ => ?_) (fun e => absurd h93 e)
  refine VE.iload (z := kc) (pc' := p + 15) d5 rfl rfl ?_
  refine VE.if_ne (tgt := p + 37) (pc' := p + 18) d6 (by omega) rfl (fun _ => nx') (fun e => ?_)
  refine VE.aload_n (o := 50) (pc' := p + 19) d7 rfl rfl ?_
  refine VE.iconst (pc' := p + 20) d8 rfl ⟨by decide, by decide⟩ ?_
  refine VE.lld (N := 1) (v := b) (pc' := p + 21) d9 rfl hK.2.2.1 (by decide) (by decide) (hb e) ?_
  refine VE.iload (z := b) (pc' := p + 23) d10 rfl rfl ?_
  have fin : VL Q K P J I cs ns (p + 31) [(6, vI b), (0, vR (some 49)), (1, vR (some 1000)), (2, vR (some 100)), (3, vR (some 50)), (4, vI i), (5, vI kc)] [vJ b, vJ b] := by
    refine VE.lcmp (pc' := p + 32) d12 rfl ?_
    rw [if_neg (Int.lt_irrefl b), if_pos rfl]
    exact VE.if_eq (tgt := p + 37) (pc' := p + 35) d13 (by omega) rfl (fun _ => nx') (fun e => absurd rfl e)
  refine VE.if_eq (tgt := p + 30) (pc' := p + 26) d11 (by omega) rfl (fun e2 => ?_) (fun e2 => ?_)
  · subst e2
    exact VE.lconst (z := 0) (pc' := p + 31) dc rfl (by decide) ⟨by decide, by decide⟩ fin
  · have e3 : b = 1 := (h01 e).resolve_left e2
    subst e3
    refine VE.lconst (z := 1) (pc' := p + 27) da rfl (by decide) ⟨by decide, by decide⟩ ?_
    exact VE.goto (pc' := p + 31) db (by omega) fin
/-- behind a call without an answer -/
theorem law_tailN (d1 : decode m_Law_law.2.1 p = .ok (.aload_n 2, 1)) (d2 : decode m_Law_law.2.1 (p + 1) = .ok (.invokevirtual 160, 3)) (d3 : decode m_Law_law.2.1 (p + 4) = .ok (.iload 5, 2)) (d4 : decode m_Law_law.2.1 (p + 6) = .ok (.if_icmp .eq 5, 3)) (d14 : decode m_Law_law.2.1 (p + 11) = .ok (.goto off, 3)) (ho : (p : Int) + 11 + off = 3229)
    (hK : LwK K P I N xs) (h93 : I 100 93 = kc) (hc : cs ≤ 603072 ∧ ns ≤ 7207018) (nx : VL Q K P J I cs ns 3229 (Lw i) []) : VL Q K P J I cs ns p (Lw5 i kc) [] := by
  refine VE.aload_n (o := 100) (pc' := p + 1) d1 rfl rfl ?_
  refine VE.cV (ci := 11) (T := T11) (N := 94) (pc' := p + 4) d2 rfl mv_Model_thrown lk_Law_160 rfl (hK.1.1.k rfl) rfl rfl rfl (by show cs + 0 ≤ 603072; omega) (by show ns + 0 ≤ 7207018; omega) (sp_Model_thrown hK.1.1) rfl rfl ?_
  refine VE.iload (z := kc) (pc' := p + 6) d3 rfl rfl ?_
  refine VE.icmp_eq (tgt := p + 11) (pc' := p + 9) d4 (by omega) rfl (fun _ => ?_) (fun e => absurd h93 e)
  refine VE.goto (pc' := 3229) d14 (by omega) ?_
  exact VE.pick [0, 1, 2, 3, 4] nx
end
