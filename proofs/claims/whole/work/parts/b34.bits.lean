/-! Integer.bitCount below 1024; a shift that leaves nothing -/
section
variable {M : MD} {x : Bool} {R : Room} {Q : PQ} {K : KT} {P : PT} {J I : IT} {cs n pc pc' : Nat} {L : List (Nat × AV)} {S : List AV}
theorem VW.ldcw {z : Int} {w : Int32} {j : Nat} (d : decode M.2.1 pc = .ok (.ldc_w j, 3)) (hp : pc + 3 = pc') (hw : Cond.constant M.1.cls j w ∈ TB) (e : w = Int32.ofInt z) (hz : inR z) (k : VW M x R Q K P J I cs n pc' L (vI z :: S)) : VW M x R Q K P J I cs n pc L S := by
  subst hp
  subst e
  exact VW.go k (fun X hl kk => lv_ldcw X.1.1 X.1.2.1 X.1.2.2.2.2.1 (X.1.2.2.2.2.2.1 _ hw) d (kk _ (WFs.cons hz X.2.2.2.2.1) X.2.2.2.2.2.1 hl))
end
def lnd (a : Int) (m : Nat) : Int := ((a.toNat &&& m : Nat) : Int)
def bc1 (s : Nat) : Int := lnd ((s / 2 : Nat) : Int) 1431655765
def bc2 (s : Nat) : Int := (s : Int) - bc1 s
def bc3 (s : Nat) : Int := lnd (bc2 s) 858993459
def bc4 (s : Nat) : Int := ((bc2 s).toNat / 4 : Nat)
def bc5 (s : Nat) : Int := lnd (bc4 s) 858993459
def bc6 (s : Nat) : Int := bc3 s + bc5 s
def bc7 (s : Nat) : Int := ((bc6 s).toNat / 16 : Nat)
def bc8 (s : Nat) : Int := lnd (bc6 s + bc7 s) 252645135
def bc9 (s : Nat) : Int := ((bc8 s).toNat / 256 : Nat)
def bcA (s : Nat) : Int := bc8 s + bc9 s
def bcB (s : Nat) : Int := ((bcA s).toNat / 65536 : Nat)
def bcC (s : Nat) : Int := bcA s + bcB s
def bcD (s : Nat) : Int := lnd (bcC s) 63
def shu (a b : Int) : Int32 := ((Int32.ofInt a).toUInt32 >>> ((Int32.ofInt b).toUInt32 &&& Int32.toUInt32 31)).toInt32
abbrev BcA (s : Nat) : Prop := (shu (s : Int) 1 = Int32.ofInt ((s / 2 : Nat) : Int) ∧ Int32.ofInt ((s / 2 : Nat) : Int) &&& Int32.ofInt 1431655765 = Int32.ofInt (bc1 s) ∧ Int32.ofInt (bc2 s) &&& Int32.ofInt 858993459 = Int32.ofInt (bc3 s) ∧ shu (bc2 s) 2 = Int32.ofInt (bc4 s) ∧ Int32.ofInt (bc4 s) &&& Int32.ofInt 858993459 = Int32.ofInt (bc5 s)) ∧ (shu (bc6 s) 4 = Int32.ofInt (bc7 s) ∧ Int32.ofInt (bc6 s + bc7 s) &&& Int32.ofInt 252645135 = Int32.ofInt (bc8 s) ∧ shu (bc8 s) 8 = Int32.ofInt (bc9 s) ∧ shu (bcA s) 16 = Int32.ofInt (bcB s) ∧ Int32.ofInt (bcC s) &&& Int32.ofInt 63 = Int32.ofInt (bcD s))
abbrev BcR (s : Nat) : Prop := ((0 ≤ bc1 s ∧ bc1 s ≤ 5000) ∧ (0 ≤ bc2 s ∧ bc2 s ≤ 5000) ∧ (0 ≤ bc3 s ∧ bc3 s ≤ 5000) ∧ (0 ≤ bc4 s ∧ bc4 s ≤ 5000) ∧ (0 ≤ bc5 s ∧ bc5 s ≤ 5000)) ∧ ((0 ≤ bc7 s ∧ bc7 s ≤ 5000) ∧ (0 ≤ bc8 s ∧ bc8 s ≤ 5000) ∧ (0 ≤ bc9 s ∧ bc9 s ≤ 5000) ∧ (0 ≤ bcB s ∧ bcB s ≤ 5000) ∧ (0 ≤ bcD s ∧ bcD s ≤ 5000))
theorem bc_all : ∀ s : Fin 1024, BcA s.val := by decide +kernel
theorem bc_rg : ∀ s : Fin 1024, BcR s.val := by decide +kernel
theorem bc_a {s : Nat} (h : s < 1024) : BcA s := bc_all ⟨s, h⟩
theorem bc_r {s : Nat} (h : s < 1024) : BcR s := bc_rg ⟨s, h⟩
theorem bc_wk : ∀ s : Fin 1024, bcD s.val = ((wk (s.val : Int) 10 : Nat) : Int) := by decide +kernel
section
variable {K : KT} {P : PT} {J I : IT}
theorem sp_bitCount {s : Nat} (hs : s < 1024) : Sp m_java_lang_Integer_bitCount false (rmv 0 0) (ex K P J I (.inl (some (vI ((wk (s : Int) 10 : Nat) : Int))))) K P J I [vI (s : Int)] := by
  obtain ⟨⟨b1, b2, b3, b4, b5⟩, b7, b8, b9, bb, bd⟩ := bc_a hs
  obtain ⟨⟨r1, r2, r3, r4, r5⟩, r7, r8, r9, rb, rd⟩ := bc_r hs
  have bw : bcD s = ((wk (s : Int) 10 : Nat) : Int) := bc_wk ⟨s, hs⟩
  have e2 : (s : Int) - bc1 s = bc2 s := rfl
  have e6 : bc3 s + bc5 s = bc6 s := rfl
  have eA : bc8 s + bc9 s = bcA s := rfl
  have eC : bcA s + bcB s = bcC s := rfl
  refine Sp.ofV (by decide) (Or.inr rfl) rfl ?_
  refine VW.iload_n (pc' := 1) d_java_lang_Integer_bitCount_0 rfl rfl ?_
  refine VW.iload_n (pc' := 2) d_java_lang_Integer_bitCount_1 rfl rfl ?_
  refine VW.iconst (pc' := 3) d_java_lang_Integer_bitCount_2 rfl (by decide) ?_
  refine VW.iushr (pc' := 4) (z := ((s / 2 : Nat) : Int)) d_java_lang_Integer_bitCount_3 rfl (by unfold inR; omega) (b1) ?_
  refine VW.ldcw (pc' := 7) (z := 1431655765) d_java_lang_Integer_bitCount_4 rfl lk_java_lang_Integer_265 (by decide) (by decide) ?_
  refine VW.iand (pc' := 8) (z := bc1 s) d_java_lang_Integer_bitCount_7 rfl (by unfold inR; omega) (b2) ?_
  refine VW.isub (pc' := 9) d_java_lang_Integer_bitCount_8 rfl (by unfold inR; omega) ?_
  rw [e2]
  refine VW.istore_n (pc' := 10) d_java_lang_Integer_bitCount_9 rfl rfl ?_
  refine VW.iload_n (pc' := 11) d_java_lang_Integer_bitCount_10 rfl rfl ?_
  refine VW.ldcw (pc' := 14) (z := 858993459) d_java_lang_Integer_bitCount_11 rfl lk_java_lang_Integer_266 (by decide) (by decide) ?_
  refine VW.iand (pc' := 15) (z := bc3 s) d_java_lang_Integer_bitCount_14 rfl (by unfold inR; omega) (b3) ?_
  refine VW.iload_n (pc' := 16) d_java_lang_Integer_bitCount_15 rfl rfl ?_
  refine VW.iconst (pc' := 17) d_java_lang_Integer_bitCount_16 rfl (by decide) ?_
  refine VW.iushr (pc' := 18) (z := bc4 s) d_java_lang_Integer_bitCount_17 rfl (by unfold inR; omega) (b4) ?_
  refine VW.ldcw (pc' := 21) (z := 858993459) d_java_lang_Integer_bitCount_18 rfl lk_java_lang_Integer_266 (by decide) (by decide) ?_
  refine VW.iand (pc' := 22) (z := bc5 s) d_java_lang_Integer_bitCount_21 rfl (by unfold inR; omega) (b5) ?_
  refine VW.iadd (pc' := 23) d_java_lang_Integer_bitCount_22 rfl (by unfold inR; omega) ?_
  rw [e6]
  refine VW.istore_n (pc' := 24) d_java_lang_Integer_bitCount_23 rfl rfl ?_
  refine VW.iload_n (pc' := 25) d_java_lang_Integer_bitCount_24 rfl rfl ?_
  refine VW.iload_n (pc' := 26) d_java_lang_Integer_bitCount_25 rfl rfl ?_
  refine VW.iconst (pc' := 27) d_java_lang_Integer_bitCount_26 rfl (by decide) ?_
  refine VW.iushr (pc' := 28) (z := bc7 s) d_java_lang_Integer_bitCount_27 rfl (by unfold inR; omega) (b7) ?_
  refine VW.iadd (pc' := 29) d_java_lang_Integer_bitCount_28 rfl (by unfold inR; omega) ?_
  refine VW.ldcw (pc' := 32) (z := 252645135) d_java_lang_Integer_bitCount_29 rfl lk_java_lang_Integer_267 (by decide) (by decide) ?_
  refine VW.iand (pc' := 33) (z := bc8 s) d_java_lang_Integer_bitCount_32 rfl (by unfold inR; omega) (b8) ?_
  refine VW.istore_n (pc' := 34) d_java_lang_Integer_bitCount_33 rfl rfl ?_
  refine VW.iload_n (pc' := 35) d_java_lang_Integer_bitCount_34 rfl rfl ?_
  refine VW.iload_n (pc' := 36) d_java_lang_Integer_bitCount_35 rfl rfl ?_
  refine VW.bipush (pc' := 38) d_java_lang_Integer_bitCount_36 rfl (by decide) ?_
  refine VW.iushr (pc' := 39) (z := bc9 s) d_java_lang_Integer_bitCount_38 rfl (by unfold inR; omega) (b9) ?_
  refine VW.iadd (pc' := 40) d_java_lang_Integer_bitCount_39 rfl (by unfold inR; omega) ?_
  rw [eA]
  refine VW.istore_n (pc' := 41) d_java_lang_Integer_bitCount_40 rfl rfl ?_
  refine VW.iload_n (pc' := 42) d_java_lang_Integer_bitCount_41 rfl rfl ?_
  refine VW.iload_n (pc' := 43) d_java_lang_Integer_bitCount_42 rfl rfl ?_
  refine VW.bipush (pc' := 45) d_java_lang_Integer_bitCount_43 rfl (by decide) ?_
  refine VW.iushr (pc' := 46) (z := bcB s) d_java_lang_Integer_bitCount_45 rfl (by unfold inR; omega) (bb) ?_
  refine VW.iadd (pc' := 47) d_java_lang_Integer_bitCount_46 rfl (by unfold inR; omega) ?_
  rw [eC]
  refine VW.istore_n (pc' := 48) d_java_lang_Integer_bitCount_47 rfl rfl ?_
  refine VW.iload_n (pc' := 49) d_java_lang_Integer_bitCount_48 rfl rfl ?_
  refine VW.bipush (pc' := 51) d_java_lang_Integer_bitCount_49 rfl (by decide) ?_
  refine VW.iand (pc' := 52) (z := bcD s) d_java_lang_Integer_bitCount_51 rfl (by unfold inR; omega) (bd) ?_
  exact VW.iret d_java_lang_Integer_bitCount_52 rfl rfl (Nat.zero_le _) (Nat.zero_le _) (by rw [bw]; exact ex_rf)
/-- a shift to the right that leaves nothing -/
theorem shu_0 {c : Int} (hc : inR c) {k : Nat} (hk : k ≤ 10) : (shu c (k : Int)).toInt = 0 ↔ 0 ≤ c ∧ c < 2 ^ k := by
  have e1 : (shu c (k : Int)).toInt = 0 ↔ ((Int32.ofInt c).toUInt32 >>> ((Int32.ofInt (k : Int)).toUInt32 &&& Int32.toUInt32 31)) = 0 := by
    have z : (0 : Int32).toInt = 0 := by decide
    constructor
    · intro h
      have : shu c (k : Int) = 0 := Int32.toInt_inj.mp (h.trans z.symm)
      exact congrArg Int32.toUInt32 this
    · intro h
      unfold shu
      rw [h]; exact z
  have e2 : ((Int32.ofInt (k : Int)).toUInt32 &&& Int32.toUInt32 31).toNat = k := by
    have : ∀ k : Fin 11, ((Int32.ofInt ((k.val : Nat) : Int)).toUInt32 &&& Int32.toUInt32 31).toNat = k.val := by decide
    exact this ⟨k, by omega⟩
  have e3 : (Int32.ofInt c).toUInt32.toNat = (c % 4294967296).toNat := by
    show (BitVec.ofInt 32 c).toNat = _
    rw [BitVec.toNat_ofInt]; rfl
  have e4 : ((Int32.ofInt c).toUInt32 >>> ((Int32.ofInt (k : Int)).toUInt32 &&& Int32.toUInt32 31)) = 0 ↔ (c % 4294967296).toNat / 2 ^ k = 0 := by
    rw [← UInt32.toNat_inj, UInt32.toNat_shiftRight, e2, e3, Nat.mod_eq_of_lt (by omega), Nat.shiftRight_eq_div_pow]
    exact Iff.rfl
  have p : 0 < 2 ^ k := Nat.pow_pos (by decide)
  have p10 : (2 : Nat) ^ k ≤ 2 ^ 10 := Nat.pow_le_pow_right (by decide) hk
  have pc : ((2 ^ k : Nat) : Int) = (2 : Int) ^ k := by rw [Int.natCast_pow]; rfl
  rw [e1, e4, Nat.div_eq_zero_iff_lt p, ← pc]
  unfold inR at hc
  constructor
  · intro h
    omega
  · rintro ⟨h1, h2⟩
    omega
theorem shu_rg (a b : Int) : inR (shu a b).toInt ∧ Int32.ofInt (shu a b).toInt = shu a b := by
  have h1 := Int32.le_toInt (shu a b)
  have h2 := Int32.toInt_lt (shu a b)
  exact ⟨⟨by omega, by omega⟩, Int32.ofInt_toInt _⟩
end
section
variable {K : KT} {P : PT} {J I : IT} {q : Nat} {c : Int}
theorem keep_no2 (hC : ClW K P) (hp : P 1000 10 = some q) (hQ : QuW K P q) (hB : QuB I q) (ht : 1 ≤ I q 7 ∧ I q 0 < 12) (hw : 0 ≤ quLast I q ∧ quLast I q ≤ 10) (hr : inR c) (h : ¬ (1 ≤ c ∧ c < 2 ^ (quLast I q).toNat)) : Sp m_F_keep true ({ frames := 12, cells := 1, slots := 6, locals := 400 } : Room) (ex K P J I (.inr eIAE)) K P J I [vR (some 1000), vI c] := by
  have hs := shu_0 hr (k := (quLast I q).toNat) (by omega)
  have ek : (((quLast I q).toNat : Nat) : Int) = quLast I q := by omega
  rw [ek] at hs
  refine Sp.ofV (by decide) (Or.inl rfl) rfl ?_
  refine VW.aload_n (pc' := 1) d_F_keep_0 rfl rfl ?_
  refine VW.gP (ci := 10) (T := T10) (N := 11) (k := 10) (k' := 10) (pc' := 4) d_F_keep_1 rfl lk_F_66 in10 rfl rfl rfl rfl (by first | exact hC.k 0 rfl | exact hC.k 2 rfl | exact hC.k 3 rfl | exact hQ.k) (by first | exact hp | exact hC.p 0 rfl | exact hC.p 9 rfl | rfl) ?_
  refine VW.iconst (pc' := 5) d_F_keep_4 rfl (by decide) ?_
  refine VW.cV (ci := 4) (T := T4) (N := 13) (pc' := 8) d_F_keep_5 rfl mv_Query_takesOperator lk_F_238 rfl (by first | exact hC.k 0 rfl | exact hC.k 2 rfl | exact hC.k 3 rfl | exact hQ.k) rfl rfl rfl (by decide) (by decide) (tkY hQ ht) rfl rfl ?_
  refine VW.callSX (pc' := 11) d_F_keep_8 rfl (sp_F_demandState1 (by decide)) rfl ms_F_demandState.1 ms_F_demandState.2.1 rfl ms_F_demandState.2.2 lk_F_82 rfl rfl rfl (by decide) (by decide) (fun _ _ _ _ _ hz => by cases hz.1) (fun r _ _ _ _ hz => ?_)
  obtain ⟨z1, z2, z3, z4, z5⟩ := hz
  cases z1
  replace z2 := z2.symm; replace z3 := z3.symm; replace z4 := z4.symm; replace z5 := z5.symm
  subst z2; subst z3; subst z4; subst z5
  refine VW.iload_n (pc' := 12) d_F_keep_11 rfl rfl ?_
  refine VW.if_eq (tgt := 31) (pc' := 15) d_F_keep_12 rfl rfl (fun c12 => ?_) (fun c12 => ?_)
  · try have e12 := bIe c12
    refine VW.iconst (pc' := 32) d_F_keep_31 rfl (by decide) ?_
    refine VW.callSX (pc' := 35) d_F_keep_32 rfl (sp_F_demandRange0) rfl ms_F_demandRange.1 ms_F_demandRange.2.1 rfl ms_F_demandRange.2.2 lk_F_70 rfl rfl rfl (by decide) (by decide) (fun _ _ _ _ _ hz => ?_) (fun _ _ _ _ _ hz => by cases hz.1)
    obtain ⟨z1, z2, z3, z4, z5⟩ := hz
    cases z1
    replace z2 := z2.symm; replace z3 := z3.symm; replace z4 := z4.symm; replace z5 := z5.symm
    subst z2; subst z3; subst z4; subst z5
    exact Or.inl ⟨rfl, ex_rf⟩
    -- end
  · try have e12 := bIn c12
    refine VW.iload_n (pc' := 16) d_F_keep_15 rfl rfl ?_
    refine VW.aload_n (pc' := 17) d_F_keep_16 rfl rfl ?_
    refine VW.gP (ci := 10) (T := T10) (N := 11) (k := 10) (k' := 10) (pc' := 20) d_F_keep_17 rfl lk_F_66 in10 rfl rfl rfl rfl (by first | exact hC.k 0 rfl | exact hC.k 2 rfl | exact hC.k 3 rfl | exact hQ.k) (by first | exact hp | exact hC.p 0 rfl | exact hC.p 9 rfl | rfl) ?_
    refine VW.cV (ci := 4) (T := T4) (N := 13) (pc' := 23) d_F_keep_20 rfl mv_Query_lastWidth lk_F_241 rfl (by first | exact hC.k 0 rfl | exact hC.k 2 rfl | exact hC.k 3 rfl | exact hQ.k) rfl rfl rfl (by decide) (by decide) (sp_Query_lastWidth hQ hB) rfl rfl ?_
    refine VW.iushr (pc' := 24) (z := (shu c (quLast I q)).toInt) d_F_keep_23 rfl ((shu_rg _ _).1) ((shu_rg _ _).2.symm) ?_
    refine VW.if_ne (tgt := 31) (pc' := 27) d_F_keep_24 rfl rfl (fun c24 => ?_) (fun c24 => ?_)
    · try have e24 := bIn c24
      refine VW.iconst (pc' := 32) d_F_keep_31 rfl (by decide) ?_
      refine VW.callSX (pc' := 35) d_F_keep_32 rfl (sp_F_demandRange0) rfl ms_F_demandRange.1 ms_F_demandRange.2.1 rfl ms_F_demandRange.2.2 lk_F_70 rfl rfl rfl (by decide) (by decide) (fun _ _ _ _ _ hz => ?_) (fun _ _ _ _ _ hz => by cases hz.1)
      obtain ⟨z1, z2, z3, z4, z5⟩ := hz
      cases z1
      replace z2 := z2.symm; replace z3 := z3.symm; replace z4 := z4.symm; replace z5 := z5.symm
      subst z2; subst z3; subst z4; subst z5
      exact Or.inl ⟨rfl, ex_rf⟩
      -- end
    · try have e24 := bIe c24
      refine VW.nrm ?_
      exact absurd ⟨by have := hs.mp c24; omega, (hs.mp c24).2⟩ h
theorem keep_run (hC : ClW K P) (hp : P 1000 10 = some q) (hQ : QuW K P q) (hB : QuB I q) (ht : 1 ≤ I q 7 ∧ I q 0 < 12) (hw : 0 ≤ quLast I q ∧ quLast I q ≤ 10) (hr : inR c) (h0 : 0 ≤ I q 0) (h7 : I q 7 ≤ 6) (h : 1 ≤ c ∧ c < 2 ^ (quLast I q).toNat) {x : Int} (hx : x = ((wk c 10 : Nat) : Int)) : Sp m_F_keep true ({ frames := 12, cells := 0, slots := 0, locals := 400 } : Room) (ex K P J (quOne I q 5 x c 0 0 0) (.inl (some (vI (quOne I q 5 x c 0 0 0 q 7))))) K P J I [vR (some 1000), vI c] := by
  have hs := shu_0 hr (k := (quLast I q).toNat) (by omega)
  have ek : (((quLast I q).toNat : Nat) : Int) = quLast I q := by omega
  rw [ek] at hs
  have p10 : (2 : Nat) ^ (quLast I q).toNat ≤ 2 ^ 10 := Nat.pow_le_pow_right (by decide) (by omega)
  have pc : ((2 ^ (quLast I q).toNat : Nat) : Int) = (2 : Int) ^ (quLast I q).toNat := by rw [Int.natCast_pow]; rfl
  have c10 : c.toNat < 1024 := by omega
  have ec : ((c.toNat : Nat) : Int) = c := by omega
  have spB := sp_bitCount (K := K) (P := P) (J := J) (I := I) c10
  rw [ec, ← hx] at spB
  refine Sp.ofV (by decide) (Or.inl rfl) rfl ?_
  refine VW.aload_n (pc' := 1) d_F_keep_0 rfl rfl ?_
  refine VW.gP (ci := 10) (T := T10) (N := 11) (k := 10) (k' := 10) (pc' := 4) d_F_keep_1 rfl lk_F_66 in10 rfl rfl rfl rfl (by first | exact hC.k 0 rfl | exact hC.k 2 rfl | exact hC.k 3 rfl | exact hQ.k) (by first | exact hp | exact hC.p 0 rfl | exact hC.p 9 rfl | rfl) ?_
  refine VW.iconst (pc' := 5) d_F_keep_4 rfl (by decide) ?_
  refine VW.cV (ci := 4) (T := T4) (N := 13) (pc' := 8) d_F_keep_5 rfl mv_Query_takesOperator lk_F_238 rfl (by first | exact hC.k 0 rfl | exact hC.k 2 rfl | exact hC.k 3 rfl | exact hQ.k) rfl rfl rfl (by decide) (by decide) (tkY hQ ht) rfl rfl ?_
  refine VW.callSX (pc' := 11) d_F_keep_8 rfl (sp_F_demandState1 (by decide)) rfl ms_F_demandState.1 ms_F_demandState.2.1 rfl ms_F_demandState.2.2 lk_F_82 rfl rfl rfl (by decide) (by decide) (fun _ _ _ _ _ hz => by cases hz.1) (fun r _ _ _ _ hz => ?_)
  obtain ⟨z1, z2, z3, z4, z5⟩ := hz
  cases z1
  replace z2 := z2.symm; replace z3 := z3.symm; replace z4 := z4.symm; replace z5 := z5.symm
  subst z2; subst z3; subst z4; subst z5
  refine VW.iload_n (pc' := 12) d_F_keep_11 rfl rfl ?_
  refine VW.if_eq (tgt := 31) (pc' := 15) d_F_keep_12 rfl rfl (fun c12 => ?_) (fun c12 => ?_)
  case refine_1 => exact absurd c12 (by omega)
  refine VW.iload_n (pc' := 16) d_F_keep_15 rfl rfl ?_
  refine VW.aload_n (pc' := 17) d_F_keep_16 rfl rfl ?_
  refine VW.gP (ci := 10) (T := T10) (N := 11) (k := 10) (k' := 10) (pc' := 20) d_F_keep_17 rfl lk_F_66 in10 rfl rfl rfl rfl (by first | exact hC.k 0 rfl | exact hC.k 2 rfl | exact hC.k 3 rfl | exact hQ.k) (by first | exact hp | exact hC.p 0 rfl | exact hC.p 9 rfl | rfl) ?_
  refine VW.cV (ci := 4) (T := T4) (N := 13) (pc' := 23) d_F_keep_20 rfl mv_Query_lastWidth lk_F_241 rfl (by first | exact hC.k 0 rfl | exact hC.k 2 rfl | exact hC.k 3 rfl | exact hQ.k) rfl rfl rfl (by decide) (by decide) (sp_Query_lastWidth hQ hB) rfl rfl ?_
  refine VW.iushr (pc' := 24) (z := (shu c (quLast I q)).toInt) d_F_keep_23 rfl ((shu_rg _ _).1) ((shu_rg _ _).2.symm) ?_
  refine VW.if_ne (tgt := 31) (pc' := 27) d_F_keep_24 rfl rfl (fun c24 => ?_) (fun c24 => ?_)
  case refine_1 => exact absurd c24 (fun z => z (hs.mpr ⟨by omega, h.2⟩))
  refine VW.iconst (pc' := 28) d_F_keep_27 rfl (by decide) ?_
  refine VW.goto (pc' := 32) d_F_keep_28 rfl ?_
  refine VW.callSX (pc' := 35) d_F_keep_32 rfl (sp_F_demandRange1 (by decide)) rfl ms_F_demandRange.1 ms_F_demandRange.2.1 rfl ms_F_demandRange.2.2 lk_F_70 rfl rfl rfl (by decide) (by decide) (fun _ _ _ _ _ hz => by cases hz.1) (fun r _ _ _ _ hz => ?_)
  obtain ⟨z1, z2, z3, z4, z5⟩ := hz
  cases z1
  replace z2 := z2.symm; replace z3 := z3.symm; replace z4 := z4.symm; replace z5 := z5.symm
  subst z2; subst z3; subst z4; subst z5
  refine VW.aload_n (pc' := 36) d_F_keep_35 rfl rfl ?_
  refine VW.gP (ci := 10) (T := T10) (N := 11) (k := 10) (k' := 10) (pc' := 39) d_F_keep_36 rfl lk_F_66 in10 rfl rfl rfl rfl (by first | exact hC.k 0 rfl | exact hC.k 2 rfl | exact hC.k 3 rfl | exact hQ.k) (by first | exact hp | exact hC.p 0 rfl | exact hC.p 9 rfl | rfl) ?_
  refine VW.iconst (pc' := 40) d_F_keep_39 rfl (by decide) ?_
  refine VW.iload_n (pc' := 41) d_F_keep_40 rfl rfl ?_
  refine VW.cS (pc' := 44) d_F_keep_41 rfl ms_java_lang_Integer_bitCount lk_F_255 rfl rfl rfl (by decide) (by decide) (spB) rfl rfl ?_
  refine VW.iload_n (pc' := 45) d_F_keep_44 rfl rfl ?_
  refine VW.iconst (pc' := 46) d_F_keep_45 rfl (by decide) ?_
  refine VW.iconst (pc' := 47) d_F_keep_46 rfl (by decide) ?_
  refine VW.iconst (pc' := 48) d_F_keep_47 rfl (by decide) ?_
  refine VW.cV (ci := 4) (T := T4) (N := 13) (pc' := 51) d_F_keep_48 rfl mv_Query_putOnLast lk_F_244 rfl (by first | exact hC.k 0 rfl | exact hC.k 2 rfl | exact hC.k 3 rfl | exact hQ.k) rfl rfl rfl (by decide) (by decide) (sp_Query_putOnLast hQ ⟨h0, ht.2⟩ ⟨ht.1, h7⟩) rfl rfl ?_
  refine VW.aload_n (pc' := 52) d_F_keep_51 rfl rfl ?_
  refine VW.gP (ci := 10) (T := T10) (N := 11) (k := 10) (k' := 10) (pc' := 55) d_F_keep_52 rfl lk_F_66 in10 rfl rfl rfl rfl (by first | exact hC.k 0 rfl | exact hC.k 2 rfl | exact hC.k 3 rfl | exact hQ.k) (by first | exact hp | exact hC.p 0 rfl | exact hC.p 9 rfl | rfl) ?_
  refine VW.gI (ci := 4) (T := T4) (N := 13) (k := 7) (k' := 7) (pc' := 58) d_F_keep_55 rfl lk_F_228 in4 rfl rfl rfl rfl (by first | exact hC.k 0 rfl | exact hC.k 2 rfl | exact hC.k 3 rfl | exact hQ.k) (by first | exact hp | exact hC.p 0 rfl | exact hC.p 9 rfl | rfl) ?_
  exact VW.iret d_F_keep_58 rfl rfl (by decide) (by decide) ex_rf
end
